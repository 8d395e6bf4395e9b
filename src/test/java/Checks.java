/** What all tests share: compares answers with those that are due and counts the wrong ones. */
final class Checks {
    static final String NOTHING = "nothing";
    static final String NO_INDEX = "java.lang.IndexOutOfBoundsException";
    static final String NO_ARGUMENT = "java.lang.IllegalArgumentException";

    private static final int MOST_TOLD = 50;

    private static int wrong = 0;
    private static int made = 0;

    private Checks() {
    }

    static void due(String what, Object got, Object want) {
        made++;
        if (!want.equals(got)) {
            wrong++;
            if (wrong <= MOST_TOLD) {
                System.out.println(what + ": answered " + got + ", due is " + want);
            }
        }
    }

    /** A call that throws the one exception, of just that class, and changes nothing. */
    static void dueThrow(String what, Daytimepair x, String exception, Runnable call) {
        String before = stateOf(x);
        due(what + " throws", thrownBy(call), exception);
        due(what + " changes nothing", stateOf(x), before);
    }

    /** The same call with each number that is no moment. */
    static void dueNoMoment(String what, Daytimepair x, MomentCall call) {
        for (int moment : new int[] {-1, 6, Integer.MIN_VALUE, Integer.MAX_VALUE}) {
            dueThrow(what + " of " + moment, x, NO_INDEX, () -> call.on(moment));
        }
    }

    /** A call that answers REFUSED and changes nothing but how often that was told. */
    static void dueRefused(String what, Daytimepair x, java.util.function.Supplier<Object> call, Object refused) {
        int refusals = x.house(1);
        String before = momentsOf(x);
        int changes = x.house(0);
        due(what, call.get(), refused);
        due(what + " is counted", x.house(1), refusals + 1);
        due(what + " changes no moment", momentsOf(x), before);
        due(what + " is no change", x.house(0), changes);
    }

    static String momentOf(Daytimepair x, int moment) {
        return x.year(moment) + "-" + x.month(moment) + "-" + x.dayOfMonth(moment) + " "
                + x.hour(moment) + ":" + x.minute(moment) + ":" + x.second(moment) + "." + x.nano(moment);
    }

    static String momentsOf(Daytimepair x) {
        StringBuilder text = new StringBuilder();
        for (int moment = 0; moment < 6; moment++) {
            text.append(momentOf(x, moment)).append(" day ").append(x.day(moment)).append("; ");
        }
        return text.toString();
    }

    static String stateOf(Daytimepair x) {
        StringBuilder text = new StringBuilder(momentsOf(x));
        for (int what = 0; what <= 5; what++) {
            text.append(x.house(what)).append(' ');
        }
        return text.toString();
    }

    private static String thrownBy(Runnable call) {
        try {
            call.run();
        } catch (RuntimeException e) {
            return e.getClass().getName();
        }
        return NOTHING;
    }

    static void end(String name) {
        System.out.println(name + ": " + made + " checks, " + wrong + " wrong");
        if (wrong != 0 || made == 0) {
            System.exit(1);
        }
    }

    interface MomentCall {
        void on(int moment);
    }
}
