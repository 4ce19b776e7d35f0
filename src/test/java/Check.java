/** Counts the answers that are not due; a test ends with exit code 1 if there was one. */
final class Check {
    interface Call {
        long answer();
    }

    static final Class<IndexOutOfBoundsException> BOUNDS = IndexOutOfBoundsException.class;
    static final Class<IllegalArgumentException> ARGUMENT = IllegalArgumentException.class;
    static final Class<IllegalStateException> STATE = IllegalStateException.class;

    private static int wrong;
    private static int made;
    private static String sentence = "";
    private static int madeBefore;

    private Check() {
    }

    /** The words of the document that the checks from here on are about; each has one at least. */
    static void sentence(String words) {
        everySentenceIsChecked();
        sentence = words;
        madeBefore = made;
    }

    private static void everySentenceIsChecked() {
        if (!sentence.isEmpty() && made == madeBefore) {
            wrong++;
            System.out.println("nothing is checked of: " + sentence);
        }
    }

    static void same(String what, Object got, Object due) {
        made++;
        if (!due.equals(got)) {
            wrong++;
            if (wrong <= 50) {
                System.out.println(what + " answered " + got + ", due is " + due
                        + (sentence.isEmpty() ? "" : ": " + sentence));
            }
        }
    }

    static void eq(String what, long got, long due) {
        same(what, got, due);
    }

    static void yes(String what, boolean got) {
        same(what, got, true);
    }

    static void no(String what, boolean got) {
        same(what, got, false);
    }

    /** The call throws exactly this exception. */
    static void fails(String what, Class<? extends RuntimeException> due, Call call) {
        String got;
        try {
            got = "the answer " + call.answer();
        } catch (RuntimeException e) {
            got = e.getClass().getName();
        }
        same(what, got, due.getName());
    }

    /** The call throws exactly this exception, and nothing that can be seen is different then. */
    static void fails(String what, ShiftIsles x, Class<? extends RuntimeException> due, Call call) {
        String before = Look.at(x);
        fails(what, due, call);
        same("what there is behind " + what, Look.at(x), before);
    }

    static void end() {
        everySentenceIsChecked();
        System.out.println(made + " checks, " + wrong + " wrong");
        if (wrong != 0) {
            System.exit(1);
        }
    }
}
