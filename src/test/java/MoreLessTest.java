/** Promises 17 to 33: moments that go on and back. */
public final class MoreLessTest {
    private static final int MIN = Integer.MIN_VALUE;
    private static final int MAX = Integer.MAX_VALUE;

    public static void main(String[] args) {
        years();
        months();
        weeks();
        days();
        hours();
        minutes();
        seconds();
        nanos();
        units();
        unitsWrong();
        Checks.end("MoreLessTest");
    }

    private interface Go {
        int by(Daytimepair x, int moment, int many);
    }

    /** Both ways: on from a moment, and back by the opposite number. */
    private static void goes(String what, Daytimepair x, Go on, Go back, int many, String want) {
        x.copy(4, 2);
        x.copy(5, 2);
        Checks.due(what + " on", on.by(x, 4, many), x.dayOfWeek(4));
        Checks.due(what + " on", Checks.momentOf(x, 4), want);
        Checks.due(what + " back", back.by(x, 5, -many), x.dayOfWeek(4));
        Checks.due(what + " back", Checks.momentOf(x, 5), want);
        Checks.due(what + " first stays", Checks.momentOf(x, 0), "2000-1-1 0:0:0.0");
    }

    private static void refuses(String what, Daytimepair x, Go on, Go back, int... manys) {
        for (int many : manys) {
            Checks.dueRefused(what + " on " + many, x, () -> on.by(x, 2, many), -9);
            Checks.dueRefused(what + " back " + many, x, () -> back.by(x, 2, many), -9);
        }
    }

    private static void noMoment(String what, Daytimepair x, Go on, Go back) {
        Checks.dueNoMoment(what + " on", x, m -> on.by(x, m, 1));
        Checks.dueNoMoment(what + " back", x, m -> back.by(x, m, MIN));
    }

    private static Daytimepair at(int year, int month, int day, int hour, int minute, int second, int nano) {
        Daytimepair x = new Daytimepair();
        x.hand(hour, minute, second, nano);
        x.of(2, year, month, day, 6);
        return x;
    }

    /** How many are refused just behind what still goes, on and back, from the outermost moments. */
    private static void edges(String what, Go on, Go back, String last, String first) {
        Daytimepair x = at(9999, 12, 31, 23, 59, 59, 999999999);
        refuses(what + " at the end", x, on, (y, m, n) -> back.by(y, m, -n), 1);
        x.copy(4, 2);
        on.by(x, 4, -1);
        Checks.due(what + " near the end", Checks.momentOf(x, 4), last);
        Daytimepair z = at(-9999, 1, 1, 0, 0, 0, 0);
        refuses(what + " at the beginning", z, (y, m, n) -> on.by(y, m, -n), back, 1);
        z.copy(4, 2);
        back.by(z, 4, -1);
        Checks.due(what + " near the beginning", Checks.momentOf(z, 4), first);
    }

    // Promises 17, 24
    private static void years() {
        Go on = Daytimepair::plusYears;
        Go back = Daytimepair::minusYears;
        Daytimepair x = at(2000, 2, 29, 1, 2, 3, 4);
        goes("17 1", x, on, back, 1, "2001-2-28 1:2:3.4");
        goes("17 4", x, on, back, 4, "2004-2-29 1:2:3.4");
        goes("17 -100", x, on, back, -100, "1900-2-28 1:2:3.4");
        goes("17 0", x, on, back, 0, "2000-2-29 1:2:3.4");
        goes("17 to the last", x, on, back, 7999, "9999-2-28 1:2:3.4");
        goes("17 to the first", x, on, back, -11999, "-9999-2-28 1:2:3.4");
        refuses("17 out", x, on, (y, m, n) -> back.by(y, m, -n), 8000, -12000, 100000000, -100000000);
        for (int many : new int[] {100000001, -100000001, MIN, MAX}) {
            Checks.dueThrow("17 " + many, x, Checks.NO_ARGUMENT, () -> x.plusYears(2, many));
            Checks.dueThrow("24 " + many, x, Checks.NO_ARGUMENT, () -> x.minusYears(2, many));
        }
        noMoment("17", x, on, back);
        edges("17", on, back, "9998-12-31 23:59:59.999999999", "-9998-1-1 0:0:0.0");
    }

    // Promises 18, 25
    private static void months() {
        Go on = Daytimepair::plusMonths;
        Go back = Daytimepair::minusMonths;
        Daytimepair x = at(2024, 1, 31, 1, 2, 3, 4);
        goes("18 1", x, on, back, 1, "2024-2-29 1:2:3.4");
        goes("18 3", x, on, back, 3, "2024-4-30 1:2:3.4");
        goes("18 -1", x, on, back, -1, "2023-12-31 1:2:3.4");
        goes("18 -11", x, on, back, -11, "2023-2-28 1:2:3.4");
        goes("18 12", x, on, back, 12, "2025-1-31 1:2:3.4");
        goes("18 over the year 0", x, on, back, -2025 * 12, "-1-1-31 1:2:3.4");
        goes("18 to the last", x, on, back, 7975 * 12 + 11, "9999-12-31 1:2:3.4");
        goes("18 to the first", x, on, back, -12023 * 12, "-9999-1-31 1:2:3.4");
        refuses("18 out", x, on, (y, m, n) -> back.by(y, m, -n), 7975 * 12 + 12, -12023 * 12 - 1);
        refuses("18 far out", x, on, back, MIN, MAX);
        noMoment("18", x, on, back);
        edges("18", on, back, "9999-11-30 23:59:59.999999999", "-9999-2-1 0:0:0.0");
    }

    // Promises 19, 26
    private static void weeks() {
        Go on = Daytimepair::plusWeeks;
        Go back = Daytimepair::minusWeeks;
        Daytimepair x = at(2024, 2, 29, 1, 2, 3, 4);
        goes("19 1", x, on, back, 1, "2024-3-7 1:2:3.4");
        goes("19 -9", x, on, back, -9, "2023-12-28 1:2:3.4");
        goes("19 20871", x, on, back, 20871, "2424-2-29 1:2:3.4");
        refuses("19 out", x, on, back, MIN, MAX, 1 << 30, -(1 << 30));
        noMoment("19", x, on, back);
        edges("19", on, back, "9999-12-24 23:59:59.999999999", "-9999-1-8 0:0:0.0");
    }

    // Promises 20, 27
    private static void days() {
        Go on = Daytimepair::plusDays;
        Go back = Daytimepair::minusDays;
        Daytimepair x = at(2024, 2, 28, 1, 2, 3, 4);
        goes("20 1", x, on, back, 1, "2024-2-29 1:2:3.4");
        goes("20 2", x, on, back, 2, "2024-3-1 1:2:3.4");
        goes("20 -59", x, on, back, -59, "2023-12-31 1:2:3.4");
        goes("20 146097", x, on, back, 146097, "2424-2-28 1:2:3.4");
        goes("20 to the last", x, on, back, 2932896 - 19781, "9999-12-31 1:2:3.4");
        goes("20 to the first", x, on, back, -4371587 - 19781, "-9999-1-1 1:2:3.4");
        refuses("20 out", x, on, (y, m, n) -> back.by(y, m, -n), 2932897 - 19781, -4371588 - 19781);
        refuses("20 far out", x, on, back, MIN, MAX);
        noMoment("20", x, on, back);
        edges("20", on, back, "9999-12-30 23:59:59.999999999", "-9999-1-2 0:0:0.0");
    }

    // Promises 21, 28
    private static void hours() {
        Go on = Daytimepair::plusHours;
        Go back = Daytimepair::minusHours;
        Daytimepair x = at(2024, 2, 28, 1, 2, 3, 4);
        goes("21 1", x, on, back, 1, "2024-2-28 2:2:3.4");
        goes("21 23", x, on, back, 23, "2024-2-29 0:2:3.4");
        goes("21 -2", x, on, back, -2, "2024-2-27 23:2:3.4");
        goes("21 50", x, on, back, 50, "2024-3-1 3:2:3.4");
        goes("21 24 * 146097", x, on, back, 24 * 146097, "2424-2-28 1:2:3.4");
        refuses("21 far out", x, on, back, MIN, MAX);
        noMoment("21", x, on, back);
        edges("21", on, back, "9999-12-31 22:59:59.999999999", "-9999-1-1 1:0:0.0");
    }

    // Promises 22, 29
    private static void minutes() {
        Go on = Daytimepair::plusMinutes;
        Go back = Daytimepair::minusMinutes;
        Daytimepair x = at(2024, 2, 28, 23, 2, 3, 4);
        goes("22 1", x, on, back, 1, "2024-2-28 23:3:3.4");
        goes("22 58", x, on, back, 58, "2024-2-29 0:0:3.4");
        goes("22 -3", x, on, back, -3, "2024-2-28 22:59:3.4");
        goes("22 -1383", x, on, back, -1383, "2024-2-27 23:59:3.4");
        goes("22 1440 * 146097", x, on, back, 1440 * 146097, "2424-2-28 23:2:3.4");
        x.copy(4, 2);
        x.copy(5, 2);
        x.plusMinutes(4, MAX);
        Checks.due("22 MAX", Checks.momentOf(x, 4), "6107-3-24 1:9:3.4");
        x.plusMinutes(5, MIN);
        Checks.due("22 MIN", Checks.momentOf(x, 5), "-2059-2-5 20:54:3.4");
        x.copy(5, 2);
        x.minusMinutes(5, MIN);
        Checks.due("29 MIN", Checks.momentOf(x, 5), "6107-3-24 1:10:3.4");
        noMoment("22", x, on, back);
        edges("22", on, back, "9999-12-31 23:58:59.999999999", "-9999-1-1 0:1:0.0");
    }

    // Promises 23, 30
    private static void seconds() {
        Go on = Daytimepair::plusSeconds;
        Go back = Daytimepair::minusSeconds;
        Daytimepair x = at(1970, 1, 1, 0, 0, 0, 4);
        goes("23 1", x, on, back, 1, "1970-1-1 0:0:1.4");
        goes("23 -1", x, on, back, -1, "1969-12-31 23:59:59.4");
        goes("23 86400", x, on, back, 86400, "1970-1-2 0:0:0.4");
        goes("23 MAX", x, on, back, MAX, "2038-1-19 3:14:7.4");
        x.copy(4, 2);
        x.plusSeconds(4, MIN);
        Checks.due("23 MIN", Checks.momentOf(x, 4), "1901-12-13 20:45:52.4");
        x.copy(4, 2);
        x.minusSeconds(4, MIN);
        Checks.due("30 MIN", Checks.momentOf(x, 4), "2038-1-19 3:14:8.4");
        noMoment("23", x, on, back);
        edges("23", on, back, "9999-12-31 23:59:58.999999999", "-9999-1-1 0:0:1.0");
    }

    // Promises 31, 32
    private static void nanos() {
        Go on = (x, m, n) -> x.plusNanos(m, 0, n);
        Go back = (x, m, n) -> x.minusNanos(m, 0, n);
        Daytimepair x = at(1970, 1, 1, 0, 0, 0, 0);
        goes("31 1", x, on, back, 1, "1970-1-1 0:0:0.1");
        goes("31 -1", x, on, back, -1, "1969-12-31 23:59:59.999999999");
        goes("31 MAX", x, on, back, MAX, "1970-1-1 0:0:2.147483647");
        Go onHigh = (y, m, n) -> y.plusNanos(m, n, 7);
        Go backHigh = (y, m, n) -> y.minusNanos(m, n, -7);
        goes("31 high", x, onHigh, backHigh, 86400, "1970-1-2 0:0:0.7");
        goes("31 high MAX", x, onHigh, backHigh, MAX, "2038-1-19 3:14:7.7");
        goes("31 high below 0", x, onHigh, backHigh, -86401, "1969-12-30 23:59:59.7");
        x.copy(4, 2);
        x.plusNanos(4, MIN, MIN);
        Checks.due("31 MIN", Checks.momentOf(x, 4), "1901-12-13 20:45:49.852516352");
        x.copy(4, 2);
        x.minusNanos(4, MIN, MIN);
        Checks.due("32 MIN", Checks.momentOf(x, 4), "2038-1-19 3:14:10.147483648");
        noMoment("31", x, on, back);
        edges("31", on, back, "9999-12-31 23:59:59.999999998", "-9999-1-1 0:0:0.1");
        Daytimepair z = at(9999, 12, 31, 0, 0, 0, 0);
        refuses("31 a whole day", z, (y, m, n) -> y.plusNanos(m, n, 0), (y, m, n) -> y.minusNanos(m, -n, 0), 86400);
        Checks.due("31 a day less a nano", z.plusNanos(2, 86400, -1), 5);
        Checks.due("31 a day less a nano", Checks.momentOf(z, 2), "9999-12-31 23:59:59.999999999");
    }

    // Promise 33
    private static void units() {
        String[] one = {"2000-1-31 12:0:0.1", "2000-1-31 12:0:0.1000", "2000-1-31 12:0:0.1000000",
            "2000-1-31 12:0:1.0", "2000-1-31 12:1:0.0", "2000-1-31 13:0:0.0", "2000-2-1 0:0:0.0",
            "2000-2-1 12:0:0.0", "2000-2-7 12:0:0.0", "2000-2-29 12:0:0.0", "2001-1-31 12:0:0.0",
            "2010-1-31 12:0:0.0", "2100-1-31 12:0:0.0", "3000-1-31 12:0:0.0"};
        String[] back = {"2000-1-31 11:59:59.999999999", "2000-1-31 11:59:59.999999000",
            "2000-1-31 11:59:59.999000000", "2000-1-31 11:59:59.0", "2000-1-31 11:59:0.0", "2000-1-31 11:0:0.0",
            "2000-1-31 0:0:0.0", "2000-1-30 12:0:0.0", "2000-1-24 12:0:0.0", "1999-12-31 12:0:0.0",
            "1999-1-31 12:0:0.0", "1990-1-31 12:0:0.0", "1900-1-31 12:0:0.0", "1000-1-31 12:0:0.0"};
        Daytimepair x = at(2000, 1, 31, 12, 0, 0, 0);
        for (int unit = 0; unit <= 13; unit++) {
            int u = unit;
            x.copy(4, 2);
            Checks.due("33 unit " + unit, x.plusUnits(4, 1, unit), x.dayOfWeek(4));
            Checks.due("33 unit " + unit, Checks.momentOf(x, 4), one[unit]);
            x.copy(4, 2);
            x.plusUnits(4, -1, unit);
            Checks.due("33 back, unit " + unit, Checks.momentOf(x, 4), back[unit]);
            Checks.dueNoMoment("33 no moment", x, m -> x.plusUnits(m, 100001, u));
        }
        x.copy(4, 2);
        x.plusUnits(4, 256, 6);
        Checks.due("33 256 half days are 128 days", x.day(4) - x.day(2), 128);
        x.plusUnits(4, -257, 6);
        Checks.due("33 257 half days back", Checks.momentOf(x, 4), "2000-1-31 0:0:0.0");
        x.plusUnits(2, 100000, 8);
        Checks.due("33 100000 weeks", Checks.momentOf(x, 2), "3916-8-14 12:0:0.0");
        x.plusUnits(2, -100000, 9);
        Checks.due("33 100000 months back", Checks.momentOf(x, 2), "-4417-4-14 12:0:0.0");
        x.plusUnits(2, 99999, 6);
        Checks.due("33 99999 half days", Checks.momentOf(x, 2), "-4280-3-6 0:0:0.0");
    }

    private static void unitsWrong() {
        Daytimepair x = at(2000, 1, 1, 12, 0, 0, 0);
        for (int many : new int[] {100001, -100001, MIN, MAX}) {
            Checks.dueThrow("33 many " + many, x, Checks.NO_ARGUMENT, () -> x.plusUnits(2, many, 0));
        }
        for (int unit : new int[] {-1, 14, MIN, MAX}) {
            Checks.dueThrow("33 unit " + unit, x, Checks.NO_ARGUMENT, () -> x.plusUnits(2, 1, unit));
        }
        for (int unit = 10; unit <= 13; unit++) {
            int u = unit;
            Checks.dueRefused("33 far on, unit " + unit, x, () -> x.plusUnits(2, 100000, u), -9);
            Checks.dueRefused("33 far back, unit " + unit, x, () -> x.plusUnits(2, -100000, u), -9);
        }
        Checks.dueRefused("33 8000 years", x, () -> x.plusUnits(2, 8, 13), -9);
        Checks.due("33 11000 years back", x.plusUnits(2, -11, 13), 3);
        Checks.due("33 11000 years back", Checks.momentOf(x, 2), "-9000-1-1 12:0:0.0");
    }
}
