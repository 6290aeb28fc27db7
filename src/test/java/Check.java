/** Counts the answers that are not as due. */
final class Check {
    private static int wrong = 0;
    private static int looked = 0;

    private Check() {
    }

    static void eq(String what, long got, long due) {
        looked++;
        if (got != due) {
            wrong++;
            System.out.println(what + " answered " + got + " (" + Long.toHexString(got) + "), due is " + due
                    + " (" + Long.toHexString(due) + ")");
        }
    }

    static void is(String what, boolean got) {
        eq(what, got ? 1 : 0, 1);
    }

    static void not(String what, boolean got) {
        eq(what, got ? 1 : 0, 0);
    }

    static void end(String name) {
        System.out.println(name + ": " + looked + " answers looked at, " + wrong + " not as due");
        if (wrong != 0) {
            System.exit(1);
        }
    }
}
