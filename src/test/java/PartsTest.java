/** Promises 8 to 16: moments changed by one of their parts. */
public final class PartsTest {
    private static final String TIME = " 23:59:58.987654321";
    private static final String LATE = "-5-2-28" + TIME;
    private static final String EARLY = "2024-12-31 0:0:0.0";

    public static void main(String[] args) {
        withYear();
        withMonth();
        withDayOfMonth();
        withDayOfMonthRefused();
        withDayOfYear();
        withDayOfYearRefused();
        withHour();
        withMinute();
        withSecond();
        withNano();
        truncate();
        truncateEdges();
        Checks.end("PartsTest");
    }

    private static void moved(String what, String from, Checks.MomentCall call, String want) {
        Checks.dueMoved(what + " from " + from, from + TIME, call, want + TIME);
    }

    // Promise 8
    private static void year(String from, int year, String want) {
        moved("8 year " + year, from, (x, m) -> x.withYear(m, year), want);
    }

    private static void withYear() {
        year("2024-2-29", 2020, "2020-2-29");
        year("2024-2-29", 2023, "2023-2-28");
        year("2024-2-29", 1900, "1900-2-28");
        year("2024-2-29", 2000, "2000-2-29");
        year("2024-2-29", 0, "0-2-29");
        year("2024-2-29", -1, "-1-2-28");
        year("2024-2-29", -9999, "-9999-2-28");
        year("2024-2-29", 9999, "9999-2-28");
        year("2023-2-28", 2024, "2024-2-28");
        year("2023-12-31", 9999, "9999-12-31");
        year("2023-1-1", -9999, "-9999-1-1");
        year("9999-12-31", 9999, "9999-12-31");
        year("-9999-12-31", 9999, "9999-12-31");
    }

    // Promise 9
    private static void withMonth() {
        for (int month = 1; month <= 12; month++) {
            int m = month;
            String want = month + "-" + Checks.LENGTHS[month - 1];
            moved("9 month " + month, "2023-1-31", (x, n) -> x.withMonth(n, m), "2023-" + want);
            moved("9 month " + month, "-9999-12-31", (x, n) -> x.withMonth(n, m), "-9999-" + want);
            moved("9 month " + month, "9999-1-31", (x, n) -> x.withMonth(n, m), "9999-" + want);
        }
        moved("9 month 2 of a leap year", "2024-1-31", (x, m) -> x.withMonth(m, 2), "2024-2-29");
        moved("9 month 2 of the year 0", "0-3-30", (x, m) -> x.withMonth(m, 2), "0-2-29");
        moved("9 month 2 of 1900", "1900-12-29", (x, m) -> x.withMonth(m, 2), "1900-2-28");
        moved("9 month 12 stays 29", "2024-2-29", (x, m) -> x.withMonth(m, 12), "2024-12-29");
        moved("9 the same month", "2024-2-29", (x, m) -> x.withMonth(m, 2), "2024-2-29");
    }

    // Promise 10
    private static void withDayOfMonth() {
        for (int month = 1; month <= 12; month++) {
            int last = Checks.LENGTHS[month - 1];
            moved("10 last", "2023-" + month + "-1", (x, m) -> x.withDayOfMonth(m, last), "2023-" + month + "-" + last);
            moved("10 first", "2023-" + month + "-" + last, (x, m) -> x.withDayOfMonth(m, 1), "2023-" + month + "-1");
        }
        moved("10 leap day", "2024-2-10", (x, m) -> x.withDayOfMonth(m, 29), "2024-2-29");
        moved("10 leap day of 2000", "2000-2-10", (x, m) -> x.withDayOfMonth(m, 29), "2000-2-29");
        moved("10 the same", "2024-2-29", (x, m) -> x.withDayOfMonth(m, 29), "2024-2-29");
        moved("10 least of all", "-9999-1-31", (x, m) -> x.withDayOfMonth(m, 1), "-9999-1-1");
        moved("10 greatest of all", "9999-12-1", (x, m) -> x.withDayOfMonth(m, 31), "9999-12-31");
    }

    // "REFUSED if the month has not so many"
    private static void withDayOfMonthRefused() {
        for (int month : new int[] {2, 4, 6, 9, 11}) {
            for (int day = Checks.LENGTHS[month - 1] + 1; day <= 31; day++) {
                int d = day;
                Checks.dueRefused("10 no day " + month + " " + day, "2023-" + month + "-1" + TIME,
                        (x, m) -> x.withDayOfMonth(m, d));
            }
        }
        for (int day : new int[] {30, 31}) {
            Checks.dueRefused("10 no day of a leap year " + day, "2024-2-29" + TIME,
                    (x, m) -> x.withDayOfMonth(m, day));
        }
        Checks.dueRefused("10 no leap day of 1900", "1900-2-28" + TIME, (x, m) -> x.withDayOfMonth(m, 29));
        Checks.dueRefused("10 no leap day of -1", "-1-2-28" + TIME, (x, m) -> x.withDayOfMonth(m, 29));
    }

    // Promise 11
    private static void dayOfYear(String from, int day, String want) {
        moved("11 day " + day, from, (x, m) -> x.withDayOfYear(m, day), want);
    }

    private static void withDayOfYear() {
        dayOfYear("2023-5-5", 1, "2023-1-1");
        dayOfYear("2023-5-5", 31, "2023-1-31");
        dayOfYear("2023-5-5", 32, "2023-2-1");
        dayOfYear("2023-5-5", 59, "2023-2-28");
        dayOfYear("2023-5-5", 60, "2023-3-1");
        dayOfYear("2023-5-5", 334, "2023-11-30");
        dayOfYear("2023-5-5", 335, "2023-12-1");
        dayOfYear("2023-5-5", 365, "2023-12-31");
        dayOfYear("2024-5-5", 60, "2024-2-29");
        dayOfYear("2024-5-5", 61, "2024-3-1");
        dayOfYear("2024-5-5", 365, "2024-12-30");
        dayOfYear("2024-5-5", 366, "2024-12-31");
        dayOfYear("2000-5-5", 366, "2000-12-31");
        dayOfYear("0-5-5", 366, "0-12-31");
        dayOfYear("-4-2-29", 366, "-4-12-31");
        dayOfYear("9999-1-1", 365, "9999-12-31");
        dayOfYear("-9999-12-31", 1, "-9999-1-1");
        dayOfYear("2024-12-31", 366, "2024-12-31");
    }

    // "REFUSED if the YEAR has not so many"
    private static void withDayOfYearRefused() {
        for (int year : new int[] {-9999, -100, -1, 1, 1900, 2023, 2100, 9999}) {
            Checks.dueRefused("11 no day 366 in " + year, year + "-12-31" + TIME, (x, m) -> x.withDayOfYear(m, 366));
        }
    }

    // Promise 12
    private static void withHour() {
        for (int hour : new int[] {0, 1, 11, 12, 22, 23}) {
            Checks.dueMoved("12 late " + hour, LATE, (x, m) -> x.withHour(m, hour),
                    "-5-2-28 " + hour + ":59:58.987654321");
            Checks.dueMoved("12 early " + hour, EARLY, (x, m) -> x.withHour(m, hour), "2024-12-31 " + hour + ":0:0.0");
        }
    }

    // Promise 13
    private static void withMinute() {
        for (int minute : new int[] {0, 1, 30, 58, 59}) {
            Checks.dueMoved("13 late " + minute, LATE, (x, m) -> x.withMinute(m, minute),
                    "-5-2-28 23:" + minute + ":58.987654321");
            Checks.dueMoved("13 early " + minute, EARLY, (x, m) -> x.withMinute(m, minute),
                    "2024-12-31 0:" + minute + ":0.0");
        }
    }

    // Promise 14
    private static void withSecond() {
        for (int second : new int[] {0, 1, 30, 58, 59}) {
            Checks.dueMoved("14 late " + second, LATE, (x, m) -> x.withSecond(m, second),
                    "-5-2-28 23:59:" + second + ".987654321");
            Checks.dueMoved("14 early " + second, EARLY, (x, m) -> x.withSecond(m, second),
                    "2024-12-31 0:0:" + second + ".0");
        }
    }

    // Promise 15
    private static void withNano() {
        for (int nano : new int[] {0, 1, 500, 987654321, 999999998, 999999999}) {
            Checks.dueMoved("15 late " + nano, LATE, (x, m) -> x.withNano(m, nano), "-5-2-28 23:59:58." + nano);
            Checks.dueMoved("15 early " + nano, EARLY, (x, m) -> x.withNano(m, nano), "2024-12-31 0:0:0." + nano);
        }
    }

    // Promise 16: "the greatest one that is not above it and a multiple of the nanos of that UNIT"
    private static void cut(String what, int unit, String from, String want) {
        Checks.dueMoved("16 " + what + ", unit " + unit, "-5-12-31 " + from, (x, m) -> x.truncate(m, unit),
                "-5-12-31 " + want);
    }

    private static void truncate() {
        String[] late = {"23:59:58.987654321", "23:59:58.987654000", "23:59:58.987000000", "23:59:58.0", "23:59:0.0",
            "23:0:0.0", "12:0:0.0", "0:0:0.0"};
        for (int unit = 0; unit <= 7; unit++) {
            cut("late", unit, late[0], late[unit]);
            cut("again", unit, late[unit], late[unit]);
            cut("nothing to cut", unit, "0:0:0.0", "0:0:0.0");
        }
    }

    private static void truncateEdges() {
        String[] whole = {"0:0:0.2", "0:0:0.1000", "0:0:0.1000000", "0:0:1.0", "0:1:0.0", "1:0:0.0", "12:0:0.0"};
        String[] less = {"0:0:0.1", "0:0:0.999", "0:0:0.999999", "0:0:0.999999999", "0:0:59.999999999",
            "0:59:59.999999999", "11:59:59.999999999", "23:59:59.999999999"};
        for (int unit = 0; unit <= 7; unit++) {
            cut("just below one", unit, less[unit], unit == 0 ? "0:0:0.1" : "0:0:0.0");
        }
        for (int unit = 0; unit <= 6; unit++) {
            cut("just one", unit, whole[unit], whole[unit]);
        }
        String[] last = {"23:59:59.999999999", "23:59:59.999999000", "23:59:59.999000000", "23:59:59.0", "23:59:0.0",
            "23:0:0.0", "12:0:0.0", "0:0:0.0"};
        for (int unit = 0; unit <= 7; unit++) {
            int u = unit;
            cut("the greatest NANO", unit, last[0], last[unit]);
            Checks.dueMoved("16 at the end", Checks.LAST, (x, m) -> x.truncate(m, u), "9999-12-31 " + last[unit]);
            Checks.dueMoved("16 at the beginning", Checks.FIRST, (x, m) -> x.truncate(m, u), Checks.FIRST);
        }
    }
}
