/** What the tests share: each check that fails is printed, and the test then ends with exit code 1. */
final class Checks {
    interface Call {
        void make();
    }

    private static int wrong = 0;
    private static String sentence = "";

    private Checks() {
    }

    /** Makes all the tests, one behind the other, even if one of them throws. */
    static void run(Runnable... tests) {
        for (Runnable test : tests) {
            sentence = "";
            try {
                test.run();
            } catch (RuntimeException e) {
                fail("the test ends with " + thrownBy(e));
            }
        }
    }

    /** The checks that follow hold these words of the document: those that fail are printed with them. */
    static void sentence(String where, String... words) {
        sentence = where + ", \"" + String.join("\", \"", words) + "\": ";
    }

    static void same(String what, long got, long due) {
        if (got != due) {
            fail(what + " answered " + got + ", due is " + due);
        }
    }

    static void same(String what, boolean got, boolean due) {
        if (got != due) {
            fail(what + " answered " + got + ", due is " + due);
        }
    }

    static void same(String what, String got, String due) {
        if (!got.equals(due)) {
            fail(what + " answered [" + got + "], due is [" + due + "]");
        }
    }

    /** There is no such cell, name, user, image, place or run; nothing changes. */
    static void outOfBounds(String what, CellNotebook notebook, Call call) {
        refused(what, notebook, call, IndexOutOfBoundsException.class);
    }

    static void illegalArgument(String what, CellNotebook notebook, Call call) {
        refused(what, notebook, call, IllegalArgumentException.class);
    }

    static void illegalState(String what, CellNotebook notebook, Call call) {
        refused(what, notebook, call, IllegalStateException.class);
    }

    static void fail(String what) {
        wrong++;
        System.out.println(sentence + what);
    }

    static void end() {
        System.out.println(wrong == 0 ? "all checks hold" : wrong + " checks fail");
        if (wrong != 0) {
            System.exit(1);
        }
    }

    /** The exception's name; with its place, if it was not the class's own code that threw it. */
    static String thrownBy(Throwable thrown) {
        StackTraceElement[] places = thrown.getStackTrace();
        String name = thrown.getClass().getName();
        boolean own = places.length > 0 && places[0].getClassName().endsWith("Notebook");
        return own ? name : name + " in " + (places.length > 0 ? places[0] : "the machine");
    }

    // Asking for all answers may go beyond the 512th call, which the document leaves free and the class allows.
    private static void refused(String what, CellNotebook notebook, Call call, Class<?> due) {
        String before = Notebooks.allAnswers(notebook);
        String thrown = "nothing";
        try {
            call.make();
        } catch (RuntimeException e) {
            thrown = thrownBy(e);
        }
        same(what + ", what is thrown,", thrown, due.getName());
        same(what + ", then all answers", Notebooks.allAnswers(notebook), before);
    }
}
