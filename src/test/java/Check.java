/** Counts the answers that are not as due and ends a test with exit code 1 if there was one. */
final class Check {
    private static int looked = 0;
    private static int wrong = 0;

    private Check() {
    }

    interface Call {
        long answer();
    }

    interface Answer {
        long of(StreamFilters x);
    }

    static void same(String what, long got, long due) {
        looked++;
        if (got != due) {
            wrong++;
            if (wrong <= 50) {
                System.out.println(what + " answered " + got + ", due is " + due);
            }
        }
    }

    static void isTrue(String what, boolean holds) {
        same(what, holds ? 1 : 0, 1);
    }

    static void fails(String what, Class<? extends RuntimeException> due, Call call) {
        looked++;
        String got;
        try {
            got = "answered " + call.answer();
        } catch (RuntimeException e) {
            if (e.getClass() == due) {
                return;
            }
            got = "threw " + e.getClass().getName();
        }
        wrong++;
        System.out.println(what + " " + got + ", due is " + due.getName());
    }

    static void end() {
        System.out.println(looked + " answers looked at, " + wrong + " not as due");
        if (wrong > 0) {
            System.exit(1);
        }
    }
}
