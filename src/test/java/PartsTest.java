/** Promises 8 to 16: moments changed by one of their parts. */
public final class PartsTest {
    public static void main(String[] args) {
        withYear();
        withMonth();
        withDayOfMonth();
        withDayOfYear();
        withHour();
        withMinute();
        withSecond();
        withNano();
        truncate();
        Checks.end("PartsTest");
    }

    private static Daytimepair at(int year, int month, int day) {
        Daytimepair x = new Daytimepair();
        x.hand(23, 59, 58, 987654321);
        x.of(3, year, month, day, 2);
        return x;
    }

    private static void moment(String what, Daytimepair x, String want) {
        Checks.due(what, Checks.momentOf(x, 3), want);
    }

    private static void outOf(String what, Daytimepair x, Checks.MomentCall call, int... values) {
        for (int value : values) {
            Checks.dueThrow(what + " " + value, x, Checks.NO_ARGUMENT, () -> call.on(value));
        }
    }

    // Promise 8
    private static void withYear() {
        Daytimepair x = at(2024, 2, 29);
        Checks.due("8 leap", x.withYear(3, 2020), 6);
        moment("8 leap", x, "2020-2-29 23:59:58.987654321");
        Checks.due("8 last of February", x.withYear(3, 1900), 3);
        moment("8 last of February", x, "1900-2-28 23:59:58.987654321");
        Checks.due("8 stays 28", x.withYear(3, 2000), 1);
        moment("8 stays 28", x, "2000-2-28 23:59:58.987654321");
        x.withYear(3, -9999);
        moment("8 first", x, "-9999-2-28 23:59:58.987654321");
        x.withYear(3, 9999);
        moment("8 last", x, "9999-2-28 23:59:58.987654321");
        x.withYear(3, 9999);
        Checks.due("8 changes", x.house(0), 7);
        outOf("8 no year", x, y -> x.withYear(3, y), -10000, 10000, Integer.MIN_VALUE, Integer.MAX_VALUE);
        Checks.dueNoMoment("8 no moment", x, m -> x.withYear(m, 10000));
    }

    // Promise 9
    private static void withMonth() {
        int[] lengths = {31, 28, 31, 30, 31, 30, 31, 31, 30, 31, 30, 31};
        for (int month = 1; month <= 12; month++) {
            Daytimepair x = at(2023, 1, 31);
            x.withMonth(3, month);
            moment("9 last", x, "2023-" + month + "-" + lengths[month - 1] + " 23:59:58.987654321");
        }
        Daytimepair x = at(2024, 1, 31);
        Checks.due("9 leap", x.withMonth(3, 2), 4);
        moment("9 leap", x, "2024-2-29 23:59:58.987654321");
        Checks.due("9 stays 29", x.withMonth(3, 12), 7);
        moment("9 stays 29", x, "2024-12-29 23:59:58.987654321");
        Checks.due("9 changes", x.house(0), 3);
        outOf("9 no month", x, v -> x.withMonth(3, v), -1, 0, 13, Integer.MIN_VALUE, Integer.MAX_VALUE);
        Checks.dueNoMoment("9 no moment", x, m -> x.withMonth(m, 13));
    }

    // Promise 10
    private static void withDayOfMonth() {
        Daytimepair x = at(2024, 2, 10);
        Checks.due("10 last", x.withDayOfMonth(3, 29), 4);
        moment("10 last", x, "2024-2-29 23:59:58.987654321");
        Checks.dueRefused("10 30", x, () -> x.withDayOfMonth(3, 30), -9);
        Checks.due("10 first", x.withDayOfMonth(3, 1), 4);
        x.withMonth(3, 4);
        Checks.dueRefused("10 31", x, () -> x.withDayOfMonth(3, 31), -9);
        Checks.due("10 30", x.withDayOfMonth(3, 30), 2);
        x.of(3, 2023, 2, 1, 0);
        Checks.dueRefused("10 29", x, () -> x.withDayOfMonth(3, 29), -9);
        outOf("10 no day", x, d -> x.withDayOfMonth(3, d), 0, 32, -1, Integer.MIN_VALUE, Integer.MAX_VALUE);
        Checks.dueNoMoment("10 no moment", x, m -> x.withDayOfMonth(m, 32));
    }

    // Promise 11
    private static void withDayOfYear() {
        Daytimepair x = at(2023, 5, 5);
        Checks.due("11 first", x.withDayOfYear(3, 1), 7);
        moment("11 first", x, "2023-1-1 23:59:58.987654321");
        Checks.due("11 60", x.withDayOfYear(3, 60), 3);
        moment("11 60", x, "2023-3-1 23:59:58.987654321");
        Checks.due("11 365", x.withDayOfYear(3, 365), 7);
        moment("11 365", x, "2023-12-31 23:59:58.987654321");
        Checks.dueRefused("11 366", x, () -> x.withDayOfYear(3, 366), -9);
        x.withYear(3, 2024);
        Checks.due("11 60 of a leap year", x.withDayOfYear(3, 60), 4);
        moment("11 60 of a leap year", x, "2024-2-29 23:59:58.987654321");
        Checks.due("11 366 of a leap year", x.withDayOfYear(3, 366), 2);
        moment("11 366", x, "2024-12-31 23:59:58.987654321");
        x.withYear(3, 1900);
        Checks.dueRefused("11 366 of 1900", x, () -> x.withDayOfYear(3, 366), -9);
        x.withYear(3, 9999);
        Checks.due("11 last", x.withDayOfYear(3, 365), 5);
        x.withYear(3, -9999);
        Checks.due("11 first of all", x.withDayOfYear(3, 1), 1);
        outOf("11 no day", x, d -> x.withDayOfYear(3, d), 0, 367, -1, Integer.MIN_VALUE, Integer.MAX_VALUE);
        Checks.dueNoMoment("11 no moment", x, m -> x.withDayOfYear(m, 367));
    }

    // Promise 12
    private static void withHour() {
        Daytimepair x = at(2024, 2, 29);
        for (int hour : new int[] {0, 12, 23, 1}) {
            Checks.due("12 hour", x.withHour(3, hour), 4);
            moment("12 hour", x, "2024-2-29 " + hour + ":59:58.987654321");
        }
        Checks.due("12 changes", x.house(0), 5);
        outOf("12 no hour", x, v -> x.withHour(3, v), -1, 24, Integer.MIN_VALUE, Integer.MAX_VALUE);
        Checks.dueNoMoment("12 no moment", x, m -> x.withHour(m, 24));
    }

    // Promise 13
    private static void withMinute() {
        Daytimepair x = at(2024, 2, 29);
        for (int minute : new int[] {0, 30, 59, 1}) {
            Checks.due("13 minute", x.withMinute(3, minute), 4);
            moment("13 minute", x, "2024-2-29 23:" + minute + ":58.987654321");
        }
        Checks.due("13 changes", x.house(0), 5);
        outOf("13 no minute", x, v -> x.withMinute(3, v), -1, 60, Integer.MIN_VALUE, Integer.MAX_VALUE);
        Checks.dueNoMoment("13 no moment", x, m -> x.withMinute(m, 60));
    }

    // Promise 14
    private static void withSecond() {
        Daytimepair x = at(2024, 2, 29);
        for (int second : new int[] {0, 30, 59, 1}) {
            Checks.due("14 second", x.withSecond(3, second), 4);
            moment("14 second", x, "2024-2-29 23:59:" + second + ".987654321");
        }
        Checks.due("14 changes", x.house(0), 5);
        outOf("14 no second", x, v -> x.withSecond(3, v), -1, 60, Integer.MIN_VALUE, Integer.MAX_VALUE);
        Checks.dueNoMoment("14 no moment", x, m -> x.withSecond(m, 60));
    }

    // Promise 15
    private static void withNano() {
        Daytimepair x = at(2024, 2, 29);
        for (int nano : new int[] {0, 1, 999999999, 500}) {
            Checks.due("15 nano", x.withNano(3, nano), 4);
            moment("15 nano", x, "2024-2-29 23:59:58." + nano);
        }
        Checks.due("15 changes", x.house(0), 5);
        outOf("15 no nano", x, v -> x.withNano(3, v), -1, 1000000000, Integer.MIN_VALUE, Integer.MAX_VALUE);
        Checks.dueNoMoment("15 no moment", x, m -> x.withNano(m, -1));
    }

    // Promise 16
    private static void truncate() {
        String[] cut = {"23:59:58.987654321", "23:59:58.987654000", "23:59:58.987000000", "23:59:58.0", "23:59:0.0",
            "23:0:0.0", "12:0:0.0", "0:0:0.0"};
        for (int unit = 0; unit < cut.length; unit++) {
            Daytimepair x = at(-5, 12, 31);
            Checks.due("16 unit " + unit, x.truncate(3, unit), 7);
            moment("16 unit " + unit, x, "-5-12-31 " + cut[unit]);
            x.truncate(3, unit);
            moment("16 again", x, "-5-12-31 " + cut[unit]);
            Checks.due("16 changes", x.house(0), 3);
        }
        Daytimepair x = at(2000, 1, 1);
        x.withHour(3, 11);
        x.truncate(3, 6);
        moment("16 half a day", x, "2000-1-1 0:0:0.0");
        outOf("16 no unit", x, u -> x.truncate(3, u), -1, 8, 13, Integer.MIN_VALUE, Integer.MAX_VALUE);
        Checks.dueNoMoment("16 no moment", x, m -> x.truncate(m, 8));
    }
}
