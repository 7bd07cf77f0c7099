/** Counts what passed and what failed, and prints what failed. */
final class Check {
    private static int passed = 0;
    private static int failed = 0;

    private Check() {
    }

    static void is(String what, long got, long want) {
        tell(got == want, what, "" + got, "" + want);
    }

    static void is(String what, boolean got, boolean want) {
        tell(got == want, what, "" + got, "" + want);
    }

    static void isReal(String what, double got, double want) {
        tell(got == want, what, "" + got, "" + want);
    }

    static void isText(String what, String got, String want) {
        tell(want.equals(got), what, got, want);
    }

    /** A row of answers, told together: "1 20 3". */
    static String row(long... answers) {
        StringBuilder row = new StringBuilder();
        for (long answer : answers) {
            row.append(row.length() == 0 ? "" : " ").append(answer);
        }
        return row.toString();
    }

    static void noSuch(String what, Publicanry of, Runnable call) {
        throwing(what, of, call, IndexOutOfBoundsException.class);
    }

    static void isWrong(String what, Publicanry of, Runnable call) {
        throwing(what, of, call, IllegalArgumentException.class);
    }

    static void isRefused(String what, Publicanry of, Runnable call) {
        throwing(what, of, call, IllegalStateException.class);
    }

    static void isDone(String what, Runnable call) {
        String got = "nothing";
        try {
            call.run();
        } catch (RuntimeException thrown) {
            got = thrown.getClass().getName();
        }
        tell(got.equals("nothing"), what + " throws", got, "nothing");
    }

    private static void throwing(String what, Publicanry of, Runnable call, Class<?> want) {
        long before = of.digest();
        String got = "nothing";
        try {
            call.run();
        } catch (RuntimeException thrown) {
            got = thrown.getClass().getName();
        }
        tell(got.equals(want.getName()), what + " throws", got, want.getName());
        is(what + " changes nothing", of.digest(), before);
    }

    private static void tell(boolean isRight, String what, String got, String want) {
        if (isRight) {
            passed++;
        } else {
            failed++;
            System.out.println(what + ": got " + got + ", want " + want);
        }
    }

    static boolean close() {
        System.out.println(passed + " passed, " + failed + " failed");
        return failed == 0 && passed > 0;
    }
}
