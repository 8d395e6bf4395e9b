/** Promises 1 to 7: how moments are made. */
public final class MadeTest {
    public static void main(String[] args) {
        newObject();
        hand();
        handWrong();
        of();
        ofHow();
        ofWrong();
        ofDay();
        copy();
        takeDate();
        takeTime();
        Checks.end("MadeTest");
    }

    // Promise 1
    private static void newObject() {
        Daytimepair x = new Daytimepair();
        for (int moment = 0; moment < 6; moment++) {
            Checks.due("1 new", Checks.momentOf(x, moment), "2000-1-1 0:0:0.0");
            Checks.due("1 new day", x.day(moment), 10957);
            Checks.due("1 new day of the week", x.dayOfWeek(moment), 6);
        }
        int[] house = {0, 0, 5, 0, 0, 0};
        for (int what = 0; what < house.length; what++) {
            Checks.due("1 new house " + what, x.house(what), house[what]);
        }
        x.plusDays(0, 1);
        Checks.due("1 two objects share nothing", new Daytimepair().day(0), 10957);
    }

    // Promise 2
    private static void hand() {
        Daytimepair x = new Daytimepair();
        Checks.due("2 first", x.hand(5, 6, 7, 8), 0);
        Checks.due("2 second", x.hand(23, 59, 59, 999999999), 5);
        x.of(0, 2000, 1, 1, 2);
        Checks.due("2 greatest", Checks.momentOf(x, 0), "2000-1-1 23:59:59.999999999");
        Checks.due("2 third", x.hand(0, 0, 0, 0), 23);
        x.of(0, 2000, 1, 1, 2);
        Checks.due("2 least", Checks.momentOf(x, 0), "2000-1-1 0:0:0.0");
        Checks.due("2 no change of a moment", x.house(0), 2);
    }

    private static void handWrong() {
        Daytimepair x = new Daytimepair();
        x.hand(5, 6, 7, 8);
        int[][] wrongs = {{-1, 0, 0, 0}, {24, 0, 0, 0}, {0, -1, 0, 0}, {0, 60, 0, 0}, {0, 0, -1, 0}, {0, 0, 60, 0},
            {0, 0, 0, -1}, {0, 0, 0, 1000000000}, {Integer.MIN_VALUE, 0, 0, 0}, {0, 0, 0, Integer.MAX_VALUE}};
        for (int[] w : wrongs) {
            Checks.dueThrow("2 wrong", x, Checks.NO_ARGUMENT, () -> x.hand(w[0], w[1], w[2], w[3]));
        }
        x.of(0, 2000, 1, 1, 2);
        Checks.due("2 wrong changes nothing", Checks.momentOf(x, 0), "2000-1-1 5:6:7.8");
        Checks.due("2 wrong keeps the hour", x.hand(0, 0, 0, 0), 5);
    }

    // Promise 3
    private static void of() {
        Daytimepair x = new Daytimepair();
        Checks.due("3 Thursday", x.of(0, 1970, 1, 1, 0), 4);
        Checks.due("3 day 0", x.day(0), 0);
        Checks.due("3 Monday", x.of(5, -9999, 1, 1, 0), 1);
        Checks.due("3 first day", x.day(5), -4371587);
        Checks.due("3 Friday", x.of(4, 9999, 12, 31, 0), 5);
        Checks.due("3 last day", x.day(4), 2932896);
        Checks.due("3 leap day of 0", x.of(1, 0, 2, 29, 0), 2);
        Checks.due("3 day of it", x.day(1), -719469);
        Checks.due("3 leap day of -4", x.of(1, -4, 2, 29, 0), 4);
        Checks.due("3 leap day of 2000", x.of(2, 2000, 2, 29, 0), 2);
        Checks.due("3 changes", x.house(0), 6);
        int[] lengths = {31, 28, 31, 30, 31, 30, 31, 31, 30, 31, 30, 31};
        for (int month = 1; month <= 12; month++) {
            int m = month;
            x.of(3, 2023, month, lengths[month - 1], 0);
            Checks.due("3 last day of " + month, x.dayOfMonth(3), lengths[month - 1]);
            for (int day = lengths[month - 1] + 1; day <= 31; day++) {
                int d = day;
                Checks.dueRefused("3 no day " + day, x, () -> x.of(3, 2023, m, d, 0), -9);
            }
        }
        for (int year : new int[] {1900, 2100, -100, 2023, -9999, 9999}) {
            Checks.dueRefused("3 no leap day", x, () -> x.of(3, year, 2, 29, 2), -9);
        }
    }

    private static void ofHow() {
        Daytimepair x = new Daytimepair();
        x.hand(11, 22, 33, 44);
        String[] times = {"11:22:0.0", "11:22:33.0", "11:22:33.44", "11:22:0.0", "11:22:33.0", "11:22:33.44",
            "11:22:33.44"};
        for (int how = 0; how < times.length; how++) {
            Checks.due("3 how " + how, x.of(2, 2024, 2, 29, how), 4);
            Checks.due("3 time of how " + how, Checks.momentOf(x, 2), "2024-2-29 " + times[how]);
        }
        Checks.due("3 others stay", Checks.momentOf(x, 1) + Checks.momentOf(x, 3),
                "2000-1-1 0:0:0.02000-1-1 0:0:0.0");
    }

    private static void ofWrong() {
        Daytimepair x = new Daytimepair();
        Checks.dueNoMoment("3 no moment", x, m -> x.of(m, 2000, 1, 1, 0));
        Checks.dueNoMoment("3 no moment first", x, m -> x.of(m, 10000, 0, 0, 9));
        int[][] wrongs = {{10000, 1, 1, 0}, {-10000, 1, 1, 0}, {2000, 0, 1, 0}, {2000, 13, 1, 0}, {2000, 1, 0, 0},
            {2000, 1, 32, 0}, {2000, 1, 1, -1}, {2000, 1, 1, 7}, {2023, 2, 30, 7}, {Integer.MAX_VALUE, 2, 31, 0}};
        for (int[] w : wrongs) {
            Checks.dueThrow("3 wrong", x, Checks.NO_ARGUMENT, () -> x.of(0, w[0], w[1], w[2], w[3]));
        }
    }

    // Promise 4
    private static void ofDay() {
        Daytimepair x = new Daytimepair();
        x.hand(1, 2, 3, 4);
        Checks.due("4 day 0", x.ofDay(0, 0), 4);
        Checks.due("4 moment", Checks.momentOf(x, 0), "1970-1-1 1:2:3.4");
        Checks.due("4 day -1", x.ofDay(1, -1), 3);
        Checks.due("4 moment", Checks.momentOf(x, 1), "1969-12-31 1:2:3.4");
        Checks.due("4 first", x.ofDay(2, -4371587), 1);
        Checks.due("4 moment", Checks.momentOf(x, 2), "-9999-1-1 1:2:3.4");
        Checks.due("4 last", x.ofDay(3, 2932896), 5);
        Checks.due("4 moment", Checks.momentOf(x, 3), "9999-12-31 1:2:3.4");
        Checks.dueRefused("4 behind the last", x, () -> x.ofDay(0, 2932897), -9);
        Checks.dueRefused("4 ahead of the first", x, () -> x.ofDay(0, -4371588), -9);
        Checks.dueRefused("4 greatest", x, () -> x.ofDay(0, 10000000), -9);
        Checks.dueRefused("4 least", x, () -> x.ofDay(0, -10000000), -9);
        Checks.dueThrow("4 above", x, Checks.NO_ARGUMENT, () -> x.ofDay(0, 10000001));
        Checks.dueThrow("4 below", x, Checks.NO_ARGUMENT, () -> x.ofDay(0, -10000001));
        Checks.dueNoMoment("4 no moment", x, m -> x.ofDay(m, 10000001));
        everyDay();
    }

    /** Each day of the calendar against the Java library's, both ways. */
    private static void everyDay() {
        Daytimepair x = new Daytimepair();
        java.time.LocalDate date = java.time.LocalDate.of(-9999, 1, 1);
        for (int day = -4371587; day <= 2932896; day++) {
            int week = x.ofDay(0, day);
            boolean same = week == date.getDayOfWeek().getValue() && x.year(0) == date.getYear()
                    && x.month(0) == date.getMonthValue() && x.dayOfMonth(0) == date.getDayOfMonth()
                    && x.dayOfYear(0) == date.getDayOfYear() && x.lengthOfMonth(0) == date.lengthOfMonth()
                    && x.isLeap(0) == date.isLeapYear()
                    && x.of(1, date.getYear(), date.getMonthValue(), date.getDayOfMonth(), 2) == week
                    && x.day(1) == day;
            if (!same) {
                Checks.due("4 day " + day, Checks.momentOf(x, 0), date.toString());
            }
            date = date.plusDays(1);
        }
    }

    private static Daytimepair two() {
        Daytimepair x = new Daytimepair();
        x.hand(1, 2, 3, 4);
        x.of(0, 2024, 2, 29, 2);
        x.hand(20, 30, 40, 50);
        x.of(1, -5, 12, 31, 2);
        return x;
    }

    // Promise 5
    private static void copy() {
        Daytimepair x = two();
        Checks.due("5 copy", x.copy(0, 1), 7);
        Checks.due("5 moment", Checks.momentOf(x, 0), "-5-12-31 20:30:40.50");
        Checks.due("5 other stays", Checks.momentOf(x, 1), "-5-12-31 20:30:40.50");
        Checks.due("5 same", x.copy(2, 2), 6);
        Checks.due("5 changes", x.house(0), 4);
        x.plusDays(1, 1);
        Checks.due("5 apart afterwards", Checks.momentOf(x, 0), "-5-12-31 20:30:40.50");
        Checks.dueNoMoment("5 no moment", x, m -> x.copy(m, 0));
        Checks.dueNoMoment("5 no other", x, m -> x.copy(0, m));
    }

    // Promise 6
    private static void takeDate() {
        Daytimepair x = two();
        Checks.due("6 take", x.takeDate(1, 0), 4);
        Checks.due("6 moment", Checks.momentOf(x, 1), "2024-2-29 20:30:40.50");
        Checks.due("6 other stays", Checks.momentOf(x, 0), "2024-2-29 1:2:3.4");
        Checks.due("6 same", x.takeDate(1, 1), 4);
        Checks.due("6 stays", Checks.momentOf(x, 1), "2024-2-29 20:30:40.50");
        Checks.due("6 changes", x.house(0), 4);
        Checks.dueNoMoment("6 no moment", x, m -> x.takeDate(m, 0));
        Checks.dueNoMoment("6 no other", x, m -> x.takeDate(0, m));
    }

    // Promise 7
    private static void takeTime() {
        Daytimepair x = two();
        Checks.due("7 take", x.takeTime(1, 0), 7);
        Checks.due("7 moment", Checks.momentOf(x, 1), "-5-12-31 1:2:3.4");
        Checks.due("7 other stays", Checks.momentOf(x, 0), "2024-2-29 1:2:3.4");
        Checks.due("7 same", x.takeTime(1, 1), 7);
        Checks.due("7 stays", Checks.momentOf(x, 1), "-5-12-31 1:2:3.4");
        Checks.due("7 changes", x.house(0), 4);
        Checks.dueNoMoment("7 no moment", x, m -> x.takeTime(m, 0));
        Checks.dueNoMoment("7 no other", x, m -> x.takeTime(0, m));
    }
}
