/** What the tests share: telling texts, and calls with the answers that are due. */
final class Check {
    static final int NONE = -1, UNKNOWN = -2, OUTSIDE = -3, NOT = -4, FULL = -5, MORE = 10000000;

    private static int wrong = 0;
    private static int calls = 0;

    private Check() {
    }

    static void due(String call, long want, long got) {
        calls++;
        if (want != got) {
            wrong++;
            System.out.println(call + " answered " + got + ", due is " + want);
        }
    }

    /** A fresh object to which these texts were told, one after the other. */
    static PoundBoys told(String... texts) {
        PoundBoys x = new PoundBoys();
        for (String text : texts) {
            tell(x, text);
        }
        return x;
    }

    static void tell(PoundBoys x, String text) {
        write(x, text);
        due("league() of " + text, text.split(";", -1).length, x.league());
    }

    /** Writes a text in pieces of 8 bytes. */
    static void write(PoundBoys x, String text) {
        for (int from = 0; from < text.length(); from += 8) {
            String piece = text.substring(from, Math.min(text.length(), from + 8));
            x.write(packed(piece), piece.length());
        }
    }

    static long packed(String piece) {
        long bytes = 0;
        for (int i = 0; i < piece.length(); i++) {
            bytes |= (long) piece.charAt(i) << 8 * i;
        }
        return bytes;
    }

    static void end() {
        System.out.println(calls + " answers looked at, " + wrong + " not as due");
        if (wrong != 0 || calls == 0) {
            System.exit(1);
        }
    }
}
