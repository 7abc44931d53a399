/** Counts the wrong answers of one test; a test calls end() last. */
final class Check {
    private static int wrong;

    private Check() {
    }

    static void same(String told, long due, long got) {
        if (due != got) {
            fail(told + " answered " + got + ", due is " + due);
        }
    }

    static void same(String told, double due, double got) {
        if (due != got) {
            fail(told + " answered " + got + ", due is " + due);
        }
    }

    /** The call throws this very exception, no kind of it, and changes nothing. */
    static void refuses(String told, FloodGrid grid, Class<? extends RuntimeException> due, Runnable call) {
        long before = grid.digest();
        String thrown = "nothing";
        try {
            call.run();
        } catch (RuntimeException e) {
            thrown = e.getClass().getName();
        }
        if (!due.getName().equals(thrown)) {
            fail(told + " threw " + thrown + ", due is " + due.getName());
        }
        same(told + ", digest() behind it", before, grid.digest());
    }

    static void index(String told, FloodGrid grid, Runnable call) {
        refuses(told, grid, IndexOutOfBoundsException.class, call);
    }

    static void argument(String told, FloodGrid grid, Runnable call) {
        refuses(told, grid, IllegalArgumentException.class, call);
    }

    /** The call throws nothing. */
    static void takes(String told, Runnable call) {
        try {
            call.run();
        } catch (RuntimeException e) {
            fail(told + " threw " + e.getClass().getName() + ", due is an answer");
        }
    }

    static void fail(String told) {
        wrong++;
        System.out.println(told);
    }

    static void end() {
        System.out.println(wrong == 0 ? "all answers are as due" : wrong + " answers are not as due");
        if (wrong != 0) {
            System.exit(1);
        }
    }
}
