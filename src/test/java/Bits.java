/** A tape made bit by bit, for tests of what pack() never writes. */
final class Bits {
    /** A WIDTH CODE that is FULL and has a word for each of its SYMBOLS. */
    private static final int[] ALL_ROW_WIDTHS = {4, 4, 4, 4, 4, 4, 4, 4, 4, 4, 4, 4, 4, 5, 5, 5, 5, 5, 5};
    private static final int[] ROW_FIELDS = {0, 0, 0, 0, 0, 0, 0, 0, 0, 0, 0, 0, 0, 0, 0, 0, 2, 3, 7};

    private final StringBuilder bits = new StringBuilder();

    /** The last BLOCK, up to its KIND. */
    static Bits last(int kind) {
        return new Bits().begin(true, kind);
    }

    Bits begin(boolean isLast, int kind) {
        return field(isLast ? 1 : 0, 1).field(kind, 2);
    }

    Bits field(int v, int w) {
        bits.append(Model.field(v & 0xFFFFFFFFL, w));
        return this;
    }

    /** Bits as they are written, from left to right. */
    Bits word(String word) {
        bits.append(word.replace(" ", ""));
        return this;
    }

    Bits octets(int... values) {
        toByte();
        for (int v : values) {
            field(v, 8);
        }
        return this;
    }

    Bits toByte() {
        while (bits.length() % 8 != 0) {
            bits.append('0');
        }
        return this;
    }

    /** A BLOCK of KIND 0. */
    Bits plain(boolean isLast, int... values) {
        begin(isLast, 0).toByte();
        return field(values.length, 16).field(65535 - values.length, 16).octets(values);
    }

    /** A SYMBOL's word by the FIXED CODES. */
    Bits fixed(int s) {
        return word(Model.words(Model.fixedSymbols())[s]);
    }

    Bits fixedDistance(int s) {
        return word(Model.words(Model.fixedDistances())[s]);
    }

    /** A BLOCK of KIND 2 up to its widths: each is told alone, in four bits. */
    Bits own(boolean isLast, int[] symbols, int[] distances) {
        begin(isLast, 2).field(symbols.length - 257, 5).field(distances.length - 1, 5).field(15, 4);
        for (int s : Model.ORDER) {
            field(s < 16 ? 4 : 0, 3);
        }
        for (int w : symbols) {
            word(Model.number(w, 4));
        }
        for (int w : distances) {
            word(Model.number(w, 4));
        }
        return this;
    }

    /** The last BLOCK of KIND 2 up to its WIDTH CODE, which has all SYMBOLS. */
    static Bits allRowWords(int h, int k) {
        Bits bits = last(2).field(h, 5).field(k, 5).field(15, 4);
        for (int s : Model.ORDER) {
            bits.field(ALL_ROW_WIDTHS[s], 3);
        }
        return bits;
    }

    /** A SYMBOL of allRowWords() alone. */
    Bits rowWord(int s) {
        return word(Model.words(ALL_ROW_WIDTHS)[s]);
    }

    /** A SYMBOL of allRowWords() with what its FIELD has. */
    Bits tell(int s, int field) {
        return rowWord(s).field(field, ROW_FIELDS[s]);
    }

    int length() {
        return bits.length();
    }

    DeflateBlocks onTape() {
        DeflateBlocks x = new DeflateBlocks();
        moveTo(x);
        return x;
    }

    /** In place of what is on its tape; a byte that is not whole is filled by 0s there. */
    void moveTo(DeflateBlocks x) {
        x.keep(0);
        for (int i = 0; i < bits.length(); i += 8) {
            int v = 0;
            for (int k = 0; k < 8 && i + k < bits.length(); k++) {
                v |= (bits.charAt(i + k) - '0') << k;
            }
            x.more(v);
        }
    }

    /** Widths by pairs of a SYMBOL and its width, all others 0. */
    static int[] widths(int n, int... pairs) {
        int[] row = new int[n];
        for (int i = 0; i < pairs.length; i += 2) {
            row[pairs[i]] = pairs[i + 1];
        }
        return row;
    }
}
