/** Counts the answers of one test and tells those that are not as due. */
final class Checks {
    private final String name;
    private int asked;
    private int wrong;

    Checks(String name) {
        this.name = name;
    }

    void due(String call, long got, long want) {
        asked++;
        if (got != want) {
            wrong++;
            if (wrong <= 40) {
                System.out.println(name + ": " + call + " answered " + got + ", due is " + want);
            }
        }
    }

    void holds(String what, boolean fact) {
        due(what, fact ? 1 : 0, 1);
    }

    void end() {
        System.out.println(name + ": " + asked + " answers, " + wrong + " not as due");
        if (wrong != 0) {
            System.exit(1);
        }
    }

    static DeflateBlocks withData(byte[] bytes) {
        DeflateBlocks x = new DeflateBlocks();
        for (byte b : bytes) {
            x.octet(b & 255);
        }
        return x;
    }

    static DeflateBlocks withData(String text) {
        return withData(text.getBytes(java.nio.charset.StandardCharsets.ISO_8859_1));
    }

    static DeflateBlocks withTape(byte[] bytes) {
        DeflateBlocks x = new DeflateBlocks();
        for (byte b : bytes) {
            x.more(b & 255);
        }
        return x;
    }

    static byte[] dataOf(DeflateBlocks x) {
        byte[] row = new byte[300];
        int n = 0;
        while (n < row.length && x.at(n) != DeflateBlocks.NONE) {
            row[n] = (byte) x.at(n);
            n++;
        }
        return java.util.Arrays.copyOf(row, n);
    }

    static byte[] tapeOf(DeflateBlocks x) {
        byte[] row = new byte[400];
        int n = 0;
        while (n < row.length && x.tape(n) != DeflateBlocks.NONE) {
            row[n] = (byte) x.tape(n);
            n++;
        }
        return java.util.Arrays.copyOf(row, n);
    }
}
