import java.lang.reflect.Method;
import java.util.ArrayList;
import java.util.Arrays;
import java.util.Comparator;
import java.util.List;

/** All promises: long mixed runs of calls, each answer against that of a model over java.time. */
public final class ModelTest {
    private static final int RUNS = 600;
    private static final int CALLS = 512;
    private static final int[] EDGES = {Integer.MIN_VALUE, Integer.MAX_VALUE, -100000001, 100000001, 100000000,
        -100000, 100000, 100001, -10000001, 10000001, -4371588, -4371587, 2932896, 2932897, -10000, -9999, 9999,
        10000, 146097, -146097, 1000000000, 999999999, 86400, 3600, 1440, 366, 365, 60, 59, 31, 28, 24, 13, 12, 7, 6,
        0, -1, 1};

    private static long seed = 20261118L;

    public static void main(String[] args) {
        Method[] face = face();
        int[] refused = new int[1];
        for (int run = 1; run <= RUNS; run++) {
            play(run, face, refused);
        }
        Checks.due("some runs meet REFUSED", refused[0] > RUNS, true);
        Checks.end("ModelTest");
    }

    private static Method[] face() {
        List<Method> methods = new ArrayList<>();
        for (Method method : Daytimepair.class.getDeclaredMethods()) {
            if (java.lang.reflect.Modifier.isPublic(method.getModifiers())) {
                methods.add(method);
            }
        }
        methods.sort(Comparator.comparing(Method::getName));
        return methods.toArray(new Method[0]);
    }

    private static void play(int run, Method[] face, int[] refused) {
        Daytimepair program = new Daytimepair();
        Model model = new Model();
        boolean wild = run % 4 == 0;
        for (int call = 1; call <= CALLS; call++) {
            Method method = face[below(face.length)];
            int[] numbers = numbersFor(method, wild);
            String what = "run " + run + " call " + call + " " + method.getName() + Arrays.toString(numbers);
            String got = String.valueOf(Checks.invoke(program, method, numbers));
            Checks.due(what, got, model.answer(method.getName(), numbers));
        }
        refused[0] += model.house(1);
    }

    /** Mostly numbers that are let, so that the runs get somewhere. */
    private static int[] numbersFor(Method method, boolean wild) {
        String name = method.getName();
        int[] numbers = new int[method.getParameterCount()];
        for (int i = 0; i < numbers.length; i++) {
            if (below(wild ? 8 : 60) == 0) {
                numbers[i] = EDGES[below(EDGES.length)];
            } else {
                numbers[i] = usual(name, i);
            }
        }
        return numbers;
    }

    private static int usual(String name, int place) {
        if (name.equals("hand")) {
            return edgedBelow(new int[] {24, 60, 60, 1000000000}[place]);
        }
        if (name.equals("house")) {
            return below(6);
        }
        if (place == 0) {
            return below(6);
        }
        switch (name) {
            case "of":
                return place == 1 ? someYear() : place == 2 ? 1 + below(12) : place == 3 ? someMonthDay() : below(7);
            case "ofDay":
                return below(7400000) - 4420000;
            case "copy":
            case "takeDate":
            case "takeTime":
            case "compare":
            case "isSame":
                return below(6);
            case "withYear":
                return someYear();
            case "withMonth":
                return 1 + below(12);
            case "withDayOfMonth":
                return someMonthDay();
            case "withDayOfYear":
                return 1 + edgedBelow(366);
            case "withHour":
                return edgedBelow(24);
            case "withMinute":
            case "withSecond":
                return edgedBelow(60);
            case "withNano":
                return edgedBelow(1000000000);
            case "truncate":
                return below(8);
            case "isSameAs":
                return below(5);
            case "field":
                return below(28);
            case "between":
            case "until":
                return place == 1 ? below(6) : below(14);
            case "plusUnits":
                return place == 1 ? someMany() % 100000 : below(14);
            default:
                return someMany();
        }
    }

    private static int edgedBelow(int bound) {
        int kind = below(6);
        return kind == 0 ? 0 : kind == 1 ? bound - 1 : below(bound);
    }

    private static int someYear() {
        int kind = below(5);
        return kind == 0 ? 4 * (below(40) - 20) : kind == 1 ? 100 * (below(199) - 99) : kind == 2
                ? 1990 + below(40) : kind == 3 ? below(19999) - 9999 : below(2) == 0 ? -9999 + below(3)
                : 9999 - below(3);
    }

    private static int someMonthDay() {
        return below(3) == 0 ? 28 + below(4) : 1 + below(28);
    }

    private static int someMany() {
        int size = 1 << below(31);
        return below(2 * size > 0 ? size : Integer.MAX_VALUE) * (below(2) * 2 - 1);
    }

    private static int below(int bound) {
        seed = seed * 6364136223846793005L + 1442695040888963407L;
        return (int) ((seed >>> 33) % bound);
    }
}
