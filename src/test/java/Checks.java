import java.lang.reflect.InvocationTargetException;
import java.lang.reflect.Method;
import java.time.LocalDate;

/**
 * What all tests share: compares answers with those that are due and counts the wrong ones.
 *
 * A moment is told as text, "2024-2-29 23:59:58.987654321" (the nanos without zeros ahead). Each check makes new
 * objects, so that no object is used for more calls than the document promises something of.
 */
final class Checks {
    static final int REFUSED = -9;
    static final String NO_GAP = "!";
    static final String NO_INDEX = "throws.IndexOutOfBoundsException";
    static final String NO_ARGUMENT = "throws.IllegalArgumentException";
    static final int MIN = Integer.MIN_VALUE;
    static final int MAX = Integer.MAX_VALUE;
    /** How many days each month has in a year that is no leap year. */
    static final int[] LENGTHS = {31, 28, 31, 30, 31, 30, 31, 31, 30, 31, 30, 31};
    /** The outermost moments. */
    static final String FIRST = "-9999-1-1 0:0:0.0";
    static final String LAST = "9999-12-31 23:59:59.999999999";

    private static final int MOST_TOLD = 50;

    private static int wrong = 0;
    private static int made = 0;

    private Checks() {
    }

    /** Makes a new object and brings it to where a check begins. */
    interface Start {
        Daytimepair make();
    }

    interface Call {
        Object on(Daytimepair x);
    }

    interface MomentCall {
        Object on(Daytimepair x, int moment);
    }

    // ---- beginnings

    /** An object whose moments, from the one with this number on, are as the texts tell. */
    static Start start(int first, String... texts) {
        return () -> {
            Daytimepair x = new Daytimepair();
            for (int i = 0; i < texts.length; i++) {
                int[] p = partsOf(texts[i]);
                x.hand(p[3], p[4], p[5], p[6]);
                x.of(first + i, p[0], p[1], p[2], 2);
            }
            x.hand(21, 43, 5, 76);
            return x;
        };
    }

    private static int[] partsOf(String text) {
        String[] words = text.substring(1).split("[- :.]");
        int[] parts = new int[words.length];
        for (int i = 0; i < parts.length; i++) {
            parts[i] = Integer.parseInt(i == 0 ? text.charAt(0) + words[0] : words[i]);
        }
        return parts;
    }

    private static LocalDate dateOf(String text) {
        int[] p = partsOf(text);
        return LocalDate.of(p[0], p[1], p[2]);
    }

    // ---- calls

    /** The answer of a method of the face; of a call that throws "throws." and the name of the exception. */
    static Object invoke(Daytimepair x, Method method, int... numbers) {
        Object[] arguments = new Object[numbers.length];
        for (int i = 0; i < numbers.length; i++) {
            arguments[i] = numbers[i];
        }
        try {
            return method.invoke(x, arguments);
        } catch (InvocationTargetException e) {
            return thrown(e.getCause());
        } catch (IllegalAccessException e) {
            throw new IllegalStateException(e);
        }
    }

    private static Object answerOf(Daytimepair x, Call call) {
        try {
            return call.on(x);
        } catch (RuntimeException e) {
            return thrown(e);
        }
    }

    private static String thrown(Throwable exception) {
        return "throws." + exception.getClass().getSimpleName();
    }

    // ---- what is due

    static void due(String what, Object got, Object want) {
        made++;
        if (!want.equals(got)) {
            wrong++;
            if (wrong <= MOST_TOLD) {
                System.out.println(what + ": answered " + got + ", due is " + want);
            }
        }
    }

    /** A call that asks, or that throws: nothing changes, not even the hand. */
    static void dueAnswer(String what, Start start, Call call, Object want) {
        Daytimepair x = start.make();
        due(what, answerOf(x, call), want);
        due(what + " changes nothing", wholeOf(x, 0), wholeOf(start.make(), 0));
    }

    /** A call that answers REFUSED, or the text of it: nothing changes but house() 1. */
    static void dueRefused(String what, Start start, Call call, Object want) {
        Daytimepair x = start.make();
        due(what, answerOf(x, call), want);
        due(what + " changes house() 1 alone", wholeOf(x, 1), wholeOf(start.make(), 0));
    }

    static void dueRefused(String what, String from, MomentCall call) {
        for (int m = 0; m < 6; m++) {
            int moment = m;
            dueRefused(what + ", moment " + m, start(m, from), x -> call.on(x, moment), REFUSED);
        }
    }

    /** A call that changes a moment: it answers the day of the week, counts one change, and leaves all others. */
    static void dueMoved(String what, Start start, Call call, int moment, String want) {
        Daytimepair x = start.make();
        LocalDate date = dateOf(want);
        due(what, answerOf(x, call), date.getDayOfWeek().getValue());
        due(what + ", then", momentOf(x, moment), want);
        due(what + ", its DAY", (long) x.day(moment), date.toEpochDay());
        due(what + ", its day of the YEAR", x.dayOfYear(moment), date.getDayOfYear());
        due(what + ", the others", othersOf(x, moment, 1), othersOf(start.make(), moment, 0));
    }

    /** The same with each of the six moments. */
    static void dueMoved(String what, String from, MomentCall call, String want) {
        for (int m = 0; m < 6; m++) {
            int moment = m;
            dueMoved(what + ", moment " + m, start(m, from), x -> call.on(x, moment), m, want);
        }
    }

    static void end(String name) {
        System.out.println(name + ": " + made + " checks, " + wrong + " wrong");
        if (wrong != 0 || made == 0) {
            System.exit(1);
        }
    }

    // ---- what an object tells of itself

    static String momentOf(Daytimepair x, int moment) {
        return x.year(moment) + "-" + x.month(moment) + "-" + x.dayOfMonth(moment) + " "
                + x.hour(moment) + ":" + x.minute(moment) + ":" + x.second(moment) + "." + x.nano(moment);
    }

    /** All that can be asked, house() 1 less so many; the hand comes last, since a moment has to show it. */
    private static String wholeOf(Daytimepair x, int refusals) {
        StringBuilder text = new StringBuilder();
        for (int m = 0; m < 6; m++) {
            text.append(momentOf(x, m)).append(" DAY ").append(x.day(m)).append("; ");
        }
        for (int what = 0; what <= 5; what++) {
            text.append(x.house(what) - (what == 1 ? refusals : 0)).append(' ');
        }
        return text.append(handOf(x)).toString();
    }

    private static String othersOf(Daytimepair x, int moment, int changes) {
        StringBuilder text = new StringBuilder();
        for (int m = 0; m < 6; m++) {
            text.append(m == moment ? "" : momentOf(x, m)).append(" DAY ").append(m == moment ? 0 : x.day(m));
        }
        text.append(" house ").append(x.house(0) - changes).append(' ').append(x.house(1)).append(' ')
                .append(x.house(5)).append(' ');
        return text.append(handOf(x)).toString();
    }

    static String handOf(Daytimepair x) {
        x.of(0, 2000, 1, 1, 2);
        return momentOf(x, 0).substring("2000-1-1 ".length());
    }
}
