/** Counts answers that are not as due; a test ends with end(). */
final class Due {
    private static int right;
    private static int wrong;

    private Due() {
    }

    static void same(String call, long got, long want) {
        if (got == want) {
            right++;
        } else {
            wrong++;
            System.out.println(call + " answered " + got + ", due is " + want);
        }
    }

    static void same(String call, boolean got, boolean want) {
        same(call, got ? 1 : 0, want ? 1 : 0);
    }

    static void same(String call, String got, String want) {
        if (want == null ? got == null : want.equals(got)) {
            right++;
        } else {
            wrong++;
            System.out.println(call + " answered:\n" + got + "\ndue is:\n" + want);
        }
    }

    static void same(String call, byte[] got, byte[] want) {
        int place = got == null || want == null ? -2 : java.util.Arrays.mismatch(got, want);
        same(call + ", where they differ", got == want ? -1 : place, -1);
    }

    /** Some call. */
    interface Call {
        void run();
    }

    static void throwing(String call, Class<? extends RuntimeException> want, Call made) {
        String got = "nothing";
        try {
            made.run();
        } catch (RuntimeException e) {
            got = e.getClass().getName();
        }
        same(call + " throws", got, want.getName());
    }

    static void end() {
        System.out.println(right + " answers as due, " + wrong + " not");
        if (wrong != 0 || right == 0) {
            System.exit(1);
        }
    }
}
