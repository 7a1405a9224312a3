/** A tape made bit by bit, for tests of what pack() never writes. */
final class Bits {
    private final StringBuilder bits = new StringBuilder();

    Bits field(int v, int w) {
        bits.append(Model.field(v & 0xFFFFFFFFL, w));
        return this;
    }

    /** Bits as they are written, from left to right. */
    Bits word(String word) {
        bits.append(word.replace(" ", ""));
        return this;
    }

    Bits octets(int... values) {
        toByte();
        for (int v : values) {
            field(v, 8);
        }
        return this;
    }

    Bits toByte() {
        while (bits.length() % 8 != 0) {
            bits.append('0');
        }
        return this;
    }

    /** A SYMBOL's word by the FIXED CODES. */
    Bits fixed(int s) {
        return word(Model.words(Model.fixedSymbols())[s]);
    }

    Bits fixedDistance(int s) {
        return word(Model.words(Model.fixedDistances())[s]);
    }

    /** A BLOCK of KIND 2 up to its widths: each is told alone, in four bits. */
    Bits own(boolean isLast, int[] symbols, int[] distances) {
        field(isLast ? 1 : 0, 1).field(2, 2);
        field(symbols.length - 257, 5).field(distances.length - 1, 5).field(15, 4);
        for (int s : Model.ORDER) {
            field(s < 16 ? 4 : 0, 3);
        }
        for (int w : symbols) {
            word(Model.number(w, 4));
        }
        for (int w : distances) {
            word(Model.number(w, 4));
        }
        return this;
    }

    int length() {
        return bits.length();
    }

    DeflateBlocks onTape() {
        DeflateBlocks x = new DeflateBlocks();
        moveTo(x);
        return x;
    }

    /** In place of what is on its tape. */
    void moveTo(DeflateBlocks x) {
        x.keep(0);
        toByte();
        for (int i = 0; i < bits.length(); i += 8) {
            int v = Integer.parseInt(new StringBuilder(bits.substring(i, i + 8)).reverse().toString(), 2);
            x.more(v);
        }
    }
}
