/** Counts what is asked and prints what is wrong; a call's answer is a text, "throws.X" where it throws X. */
final class Check {
    /** A call that answers something. */
    interface Call {
        Object answer();
    }

    private final String title;
    private int right = 0;
    private int wrong = 0;

    Check(String title) {
        this.title = title;
    }

    static String told(Call call) {
        try {
            return String.valueOf(call.answer());
        } catch (RuntimeException thrown) {
            return "throws." + thrown.getClass().getSimpleName();
        }
    }

    void due(String what, Object want, Call call) {
        same(what, String.valueOf(want), told(call));
    }

    void same(String what, String want, String got) {
        if (want.equals(got)) {
            right++;
        } else {
            wrong++;
            if (wrong <= 20) {
                System.out.println(title + ": " + what + " answered " + got + ", due is " + want);
            }
        }
    }

    /** A throwing call leaves the figures as they were; RefusalTest looks at all the rest. */
    void refused(String what, String exception, Numeraire x, Call call) {
        String before = Told.figures(x);
        due(what, "throws." + exception, call);
        same("the figures behind " + what, before, Told.figures(x));
    }

    boolean isAllRight() {
        return wrong == 0;
    }

    void end() {
        System.out.println(title + ": " + right + " right, " + wrong + " wrong");
        if (wrong != 0 || right == 0) {
            System.exit(1);
        }
    }
}
