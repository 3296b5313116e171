/** What the tests share: they count what is wrong, and end with exit code 1 if something was. */
final class Check {
    interface Call {
        long run();
    }

    private static int checks;
    private static int wrong;

    private Check() {
    }

    static void that(String what, boolean holds) {
        checks++;
        if (!holds) {
            wrong++;
            System.out.println("wrong: " + what);
        }
    }

    static void answers(String what, long due, Call call) {
        String got = outcome(call);
        that(what + " answered " + got + ", due is " + due, got.equals(Long.toString(due)));
    }

    static void noSuch(String what, Call call) {
        refuses(what, "IndexOutOfBoundsException", call);
    }

    static void badArgument(String what, Call call) {
        refuses(what, "IllegalArgumentException", call);
    }

    static void badState(String what, Call call) {
        refuses(what, "IllegalStateException", call);
    }

    private static void refuses(String what, String exception, Call call) {
        String got = outcome(call);
        that(what + " answered " + got + ", due is throws." + exception, got.equals("throws." + exception));
    }

    /** The exact class counts: a subclass that the machine throws is not the one that is due. */
    static String outcome(Call call) {
        try {
            return Long.toString(call.run());
        } catch (RuntimeException e) {
            return "throws." + e.getClass().getSimpleName();
        }
    }

    static void close(String name) {
        System.out.println(name + ": " + checks + " checks, " + wrong + " wrong");
        if (wrong != 0 || checks == 0) {
            System.exit(1);
        }
    }
}
