/** Counts what is wrong in a test program, and ends it with exit code 1 if something was. */
final class Check {
    static final Class<IndexOutOfBoundsException> NO_SUCH = IndexOutOfBoundsException.class;
    static final Class<IllegalArgumentException> BAD = IllegalArgumentException.class;
    static final Class<IllegalStateException> STATE = IllegalStateException.class;
    static final Class<java.util.NoSuchElementException> NOTHING = java.util.NoSuchElementException.class;

    /** Next to 0 to 7, and such as a mask, a short or a byte would turn into one of them. */
    static final int[] NOT_0_TO_7 = {
        -1, 8, -2, 9, -8, 15, 16, 256, 65536, 1 << 30, Integer.MAX_VALUE, Integer.MIN_VALUE, Integer.MIN_VALUE + 7,
    };

    private static int wrong = 0;
    private static String sentence = "";

    private Check() {
    }

    /** The sentence of the document that the checks behind this call are about. */
    static void says(String words) {
        sentence = words;
    }

    static void due(String what, Object want, Object got) {
        if (!want.equals(got)) {
            wrong++;
            System.out.println("\"" + sentence + "\" " + what + ": answered " + got + ", due is " + want);
        }
    }

    /** The call must throw exactly this class, and leave the fund as it was. */
    static void refused(Fund fund, String what, Class<? extends RuntimeException> kind, Fund.Call call) {
        Fund tried = fund.again();
        due(what, "throws." + kind.getSimpleName(), tried.outcome(call));
        due(what + " changes nothing", Picture.of(fund.again()), Picture.of(tried));
    }

    /** The call must answer this, and leave the fund as it was. */
    static void asked(Fund fund, String what, Object want, Fund.Call call) {
        Fund tried = fund.again();
        due(what, String.valueOf(want), tried.outcome(call));
        due(what + " changes nothing", Picture.of(fund.again()), Picture.of(tried));
    }

    static void end() {
        if (wrong > 0) {
            System.out.println(wrong + " wrong");
            System.exit(1);
        }
    }
}
