import java.lang.reflect.Method;
import java.lang.reflect.Modifier;
import java.util.ArrayList;
import java.util.Arrays;
import java.util.LinkedHashMap;
import java.util.List;
import java.util.Map;
import java.util.Set;
import java.util.TreeSet;

/**
 * Each number of each call of the face: the least and the greatest one that is let, those just beyond, which
 * exception is thrown and which one goes ahead, and that nothing changes then.
 */
public final class RangesTest {
    private static final int MIN = Checks.MIN;
    private static final int MAX = Checks.MAX;
    private static final int[] MOMENT = {0, 5};
    private static final int[] ANY = {MIN, MAX};
    private static final int[] YEAR = {-9999, 9999};
    private static final int[] YEARS_AWAY = {-100000000, 100000000};
    private static final int[] UNIT = {0, 13};

    private static final Map<String, int[][]> FACE = new LinkedHashMap<>();
    private static final Map<String, Method> METHODS = new LinkedHashMap<>();

    public static void main(String[] args) {
        listMade();
        listMoreLess();
        listAsked();
        for (Method method : Daytimepair.class.getDeclaredMethods()) {
            if (Modifier.isPublic(method.getModifiers())) {
                METHODS.put(method.getName(), method);
            }
        }
        everyMethodIsListed();
        for (String name : FACE.keySet()) {
            let(name);
            beyond(name);
            severalBeyond(name);
        }
        aheadOfRefused();
        aheadOfRefusedGap();
        Checks.end("RangesTest");
    }

    // ---- the numbers that are let, as the document tells them

    private static void list(String name, int[]... ranges) {
        FACE.put(name, ranges);
    }

    private static void listMade() {
        list("hand", new int[] {0, 23}, new int[] {0, 59}, new int[] {0, 59}, new int[] {0, 999999999});
        list("of", MOMENT, YEAR, new int[] {1, 12}, new int[] {1, 31}, new int[] {0, 6});
        list("ofDay", MOMENT, new int[] {-10000000, 10000000});
        list("copy", MOMENT, MOMENT);
        list("takeDate", MOMENT, MOMENT);
        list("takeTime", MOMENT, MOMENT);
        list("withYear", MOMENT, YEAR);
        list("withMonth", MOMENT, new int[] {1, 12});
        list("withDayOfMonth", MOMENT, new int[] {1, 31});
        list("withDayOfYear", MOMENT, new int[] {1, 366});
        list("withHour", MOMENT, new int[] {0, 23});
        list("withMinute", MOMENT, new int[] {0, 59});
        list("withSecond", MOMENT, new int[] {0, 59});
        list("withNano", MOMENT, new int[] {0, 999999999});
        list("truncate", MOMENT, new int[] {0, 7});
    }

    private static void listMoreLess() {
        for (String way : new String[] {"plus", "minus"}) {
            list(way + "Years", MOMENT, YEARS_AWAY);
            for (String part : new String[] {"Months", "Weeks", "Days", "Hours", "Minutes", "Seconds"}) {
                list(way + part, MOMENT, ANY);
            }
            list(way + "Nanos", MOMENT, ANY, ANY);
        }
        list("plusUnits", MOMENT, new int[] {-100000, 100000}, UNIT);
    }

    private static void listAsked() {
        for (String part : new String[] {"year", "month", "dayOfMonth", "dayOfYear", "dayOfWeek", "hour", "minute",
            "second", "nano", "day", "secondOfDay", "lengthOfMonth", "nanoOfDay", "isLeap"}) {
            list(part, MOMENT);
        }
        list("field", MOMENT, new int[] {0, 27});
        list("compare", MOMENT, MOMENT);
        list("isSame", MOMENT, MOMENT);
        list("isSameAs", MOMENT, new int[] {0, 4});
        list("between", MOMENT, MOMENT, UNIT);
        list("until", MOMENT, MOMENT, UNIT);
        list("house", new int[] {0, 5});
    }

    private static void everyMethodIsListed() {
        Set<String> listed = new TreeSet<>(FACE.keySet());
        listed.addAll(List.of("knock", "isSound", "digest"));
        Checks.due("methods", new TreeSet<>(METHODS.keySet()).toString(), listed.toString());
    }

    // ---- one number of a call

    private static int usual(int[] range) {
        return Math.min(Math.max(range[0], 1), range[1]);
    }

    private static int[] usuals(int[][] ranges) {
        int[] numbers = new int[ranges.length];
        for (int i = 0; i < numbers.length; i++) {
            numbers[i] = usual(ranges[i]);
        }
        return numbers;
    }

    private static Object answer(String name, Daytimepair x, int[] numbers) {
        return Checks.invoke(x, METHODS.get(name), numbers);
    }

    private static Checks.Start start() {
        return Checks.start(0, "2024-2-29 1:2:3.4", "2023-2-10 23:59:59.999999999", "-5-1-1 0:0:0.0", "0-1-31 4:5:6.7",
                "1970-1-1 12:0:0.0", "1999-12-31 13:0:59.1");
    }

    private static void let(String name) {
        int[][] ranges = FACE.get(name);
        for (int place = 0; place < ranges.length; place++) {
            for (int number : ranges[place]) {
                int[] numbers = usuals(ranges);
                numbers[place] = number;
                String answer = String.valueOf(answer(name, start().make(), numbers));
                Checks.due(name + Arrays.toString(numbers) + " throws", answer.startsWith("throws."), false);
            }
        }
    }

    private static void beyond(String name) {
        int[][] ranges = FACE.get(name);
        for (int place = 0; place < ranges.length; place++) {
            for (int number : numbersBeyond(ranges[place])) {
                int[] numbers = usuals(ranges);
                numbers[place] = number;
                String due = ranges[place] == MOMENT ? Checks.NO_INDEX : Checks.NO_ARGUMENT;
                Checks.dueAnswer(name + Arrays.toString(numbers), start(), x -> answer(name, x, numbers), due);
            }
        }
    }

    private static List<Integer> numbersBeyond(int[] range) {
        List<Integer> numbers = new ArrayList<>();
        if (range != ANY) {
            numbers.addAll(List.of(MIN, range[0] - 1, range[1] + 1, MAX));
        }
        return numbers;
    }

    // ---- several numbers of a call

    /** Each choice of numbers to be wrong: that of a moment is named first by each method that has one. */
    private static void severalBeyond(String name) {
        int[][] ranges = FACE.get(name);
        for (int choice = 1; choice < 1 << ranges.length; choice++) {
            for (int side = 0; side <= 1; side++) {
                severalBeyond(name, ranges, choice, side);
            }
        }
    }

    private static void severalBeyond(String name, int[][] ranges, int choice, int side) {
        int[] numbers = usuals(ranges);
        boolean noIndex = false;
        boolean noArgument = false;
        for (int place = 0; place < ranges.length; place++) {
            if ((choice >> place & 1) == 1 && ranges[place] != ANY) {
                numbers[place] = side == 0 ? ranges[place][0] - 1 : ranges[place][1] + 1;
                noIndex = noIndex || ranges[place] == MOMENT;
                noArgument = noArgument || ranges[place] != MOMENT;
            }
        }
        if (noIndex || noArgument) {
            Checks.dueAnswer(name + Arrays.toString(numbers), start(), x -> answer(name, x, numbers),
                    noIndex ? Checks.NO_INDEX : Checks.NO_ARGUMENT);
        }
    }

    // ---- "exceptions go ahead of REFUSED"

    private static void ahead(String due, String name, int... numbers) {
        Checks.Start last = Checks.start(0, "2023-2-28 1:2:3.4", Checks.LAST, Checks.FIRST, "2024-3-31 0:0:0.0");
        Checks.dueAnswer(name + Arrays.toString(numbers) + " ahead of REFUSED", last,
                x -> answer(name, x, numbers), due);
    }

    private static void aheadOfRefused() {
        for (int moment : new int[] {-1, 6}) {
            ahead(Checks.NO_INDEX, "of", moment, 2023, 2, 29, 0);
            ahead(Checks.NO_INDEX, "ofDay", moment, 10000000);
            ahead(Checks.NO_INDEX, "withDayOfMonth", moment, 31);
            ahead(Checks.NO_INDEX, "withDayOfYear", moment, 366);
            ahead(Checks.NO_INDEX, "plusYears", moment, 100000000);
            ahead(Checks.NO_INDEX, "minusYears", moment, 100000000);
            for (String part : new String[] {"Months", "Weeks", "Days", "Hours", "Minutes", "Seconds"}) {
                ahead(Checks.NO_INDEX, "plus" + part, moment, MAX);
                ahead(Checks.NO_INDEX, "minus" + part, moment, MIN);
            }
            ahead(Checks.NO_INDEX, "plusNanos", moment, MAX, MAX);
            ahead(Checks.NO_INDEX, "minusNanos", moment, MIN, MIN);
            ahead(Checks.NO_INDEX, "plusUnits", moment, 100000, 13);
        }
        ahead(Checks.NO_ARGUMENT, "of", 0, 2023, 2, 30, 7);
        ahead(Checks.NO_ARGUMENT, "of", 0, 2023, 2, 31, -1);
        ahead(Checks.NO_ARGUMENT, "of", 0, 10000, 2, 31, 0);
        ahead(Checks.NO_ARGUMENT, "of", 0, 2023, 2, 32, 0);
        ahead(Checks.NO_ARGUMENT, "ofDay", 0, 10000001);
        ahead(Checks.NO_ARGUMENT, "withDayOfMonth", 0, 32);
        ahead(Checks.NO_ARGUMENT, "withDayOfYear", 0, 367);
        ahead(Checks.NO_ARGUMENT, "withYear", 1, 10000);
        ahead(Checks.NO_ARGUMENT, "plusYears", 1, 100000001);
        ahead(Checks.NO_ARGUMENT, "minusYears", 1, MIN);
        ahead(Checks.NO_ARGUMENT, "plusUnits", 1, 100001, 13);
        ahead(Checks.NO_ARGUMENT, "plusUnits", 1, 100000, 14);
        ahead(Checks.NO_ARGUMENT, "plusUnits", 2, -100000, -1);
    }

    private static void aheadOfRefusedGap() {
        for (String name : new String[] {"between", "until"}) {
            for (int moment : new int[] {-1, 6}) {
                for (int unit : new int[] {0, 9, 13, 14}) {
                    ahead(Checks.NO_INDEX, name, moment, 3, unit);
                    ahead(Checks.NO_INDEX, name, 3, moment, unit);
                }
            }
            ahead(Checks.NO_ARGUMENT, name, 1, 2, -1);
            ahead(Checks.NO_ARGUMENT, name, 3, 3, 14);
        }
    }
}
