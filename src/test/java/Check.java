/** Counts what is wrong in a test program, and ends it with exit code 1 if something was. */
final class Check {
    private static int wrong = 0;

    private Check() {
    }

    interface Call {
        Object answer();
    }

    static void due(String what, Object want, Object got) {
        if (!want.equals(got)) {
            wrong++;
            System.out.println(what + ": answered " + got + ", due is " + want);
        }
    }

    /** The call must throw exactly this class, and leave the fund as it was. */
    static void refused(Quorumfund fund, String what, Class<? extends RuntimeException> kind, Call call) {
        String before = Picture.of(fund);
        due(what, "throws." + kind.getSimpleName(), outcome(call));
        due(what + " changes nothing", before, Picture.of(fund));
    }

    static String outcome(Call call) {
        try {
            return String.valueOf(call.answer());
        } catch (RuntimeException e) {
            return "throws." + e.getClass().getSimpleName();
        }
    }

    static void end() {
        if (wrong > 0) {
            System.out.println(wrong + " wrong");
            System.exit(1);
        }
    }
}
