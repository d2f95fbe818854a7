/** Counts the answers that are not as due. */
final class Check {
    interface Call {
        Object answer();
    }

    interface Deed {
        void happen();
    }

    static final String INDEX = "throws.IndexOutOfBoundsException";
    static final String ARGUMENT = "throws.IllegalArgumentException";
    static final String STATE = "throws.IllegalStateException";
    static final String NOTHING = "nothing";

    private int wrong = 0;

    /** The answer as a text; an exception is one too, by its very class. */
    static String said(Call call) {
        try {
            return String.valueOf(call.answer());
        } catch (RuntimeException e) {
            String name = e.getClass().getName();
            return "throws." + name.substring(name.lastIndexOf('.') + 1);
        }
    }

    static String said(Deed deed) {
        return said(() -> {
            deed.happen();
            return NOTHING;
        });
    }

    void due(String what, Object want, Call call) {
        same(what, String.valueOf(want), said(call));
    }

    void doneDue(String what, Object want, Deed deed) {
        same(what, String.valueOf(want), said(deed));
    }

    void same(String what, String want, String got) {
        if (!want.equals(got)) {
            wrong++;
            System.out.println(what + " answered " + got + ", due is " + want);
        }
    }

    void end(String test) {
        System.out.println(test + ": " + (wrong == 0 ? "all answers are as due" : wrong + " answers are not as due"));
        if (wrong != 0) {
            System.exit(1);
        }
    }
}
