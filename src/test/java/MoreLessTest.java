/** Promises 17 to 33: moments that go on and back. */
public final class MoreLessTest {
    private static final int MIN = Checks.MIN;
    private static final int MAX = Checks.MAX;
    private static final String FIRST = Checks.FIRST;
    private static final String LAST = Checks.LAST;

    public static void main(String[] args) {
        years();
        months();
        weeks();
        days();
        hours();
        minutes();
        seconds();
        nanos();
        nanosOf64Bits();
        nanosRefused();
        oneUnit();
        unitsCarry();
        unitsOfMonths();
        unitsMany();
        unitsRefused();
        halfDays();
        Checks.end("MoreLessTest");
    }

    private interface Go {
        int by(Daytimepair x, int moment, int many);
    }

    /** On by a number, and back by the opposite one (which -2147483648 has not). */
    private static void goes(String what, Go on, Go back, String from, int many, String want) {
        String told = what + " " + many + " from " + from;
        Checks.dueMoved(told, from, (x, m) -> on.by(x, m, many), want);
        Checks.dueMoved(told + ", back", from, (x, m) -> back.by(x, m, -many), want);
    }

    private static void refuses(String what, Go on, Go back, String from, int... manys) {
        for (int many : manys) {
            String told = what + " " + many + " from " + from;
            Checks.dueRefused(told, from, (x, m) -> on.by(x, m, many));
            Checks.dueRefused(told + ", back", from, (x, m) -> back.by(x, m, -many));
        }
    }

    /**
     * "REFUSED if its YEAR would be out of its range", one step beyond and none, at both ends. A month on again from
     * where a month back led is no way back, since November is shorter.
     */
    private static void ends(String what, Go on, Go back, String aheadOfLast, String behindFirst) {
        goes(what, on, back, LAST, 0, LAST);
        goes(what, on, back, FIRST, 0, FIRST);
        goes(what, on, back, LAST, -1, aheadOfLast);
        goes(what, on, back, FIRST, 1, behindFirst);
        goes(what, on, back, aheadOfLast, 1, what.equals("18") ? "9999-12-30 23:59:59.999999999" : LAST);
        goes(what, on, back, behindFirst, -1, FIRST);
        refuses(what, on, back, LAST, 1, 2);
        refuses(what, on, back, FIRST, -1, -2);
        refuses(what, on, back, aheadOfLast, 2);
        refuses(what, on, back, behindFirst, -2);
    }

    /** -2147483648 where that many are out of the range, from wherever it is. */
    private static void refusesLeast(String what, Go on, Go back) {
        for (String from : new String[] {FIRST, "2024-2-29 1:2:3.4", LAST}) {
            for (int many : new int[] {MIN, MIN + 1, MAX}) {
                Checks.dueRefused(what + " on by " + many, from, (x, m) -> on.by(x, m, many));
                Checks.dueRefused(what + " back by " + many, from, (x, m) -> back.by(x, m, many));
            }
        }
    }

    /** "-2147483648 is 2147483648 the other way", where that is in the range. */
    private static void goesLeast(String what, Go on, Go back, String from, String ahead, String behind) {
        Checks.dueMoved(what + " on by -2147483648", from, (x, m) -> on.by(x, m, MIN), ahead);
        Checks.dueMoved(what + " back by -2147483648", from, (x, m) -> back.by(x, m, MIN), behind);
    }

    // Promises 17, 24
    private static void years() {
        Go on = Daytimepair::plusYears;
        Go back = Daytimepair::minusYears;
        String leapDay = "2000-2-29 1:2:3.4";
        goes("17", on, back, leapDay, 0, leapDay);
        goes("17", on, back, leapDay, 1, "2001-2-28 1:2:3.4");
        goes("17", on, back, leapDay, -1, "1999-2-28 1:2:3.4");
        goes("17", on, back, leapDay, 4, "2004-2-29 1:2:3.4");
        goes("17", on, back, leapDay, -100, "1900-2-28 1:2:3.4");
        goes("17", on, back, leapDay, -2000, "0-2-29 1:2:3.4");
        goes("17", on, back, leapDay, -2001, "-1-2-28 1:2:3.4");
        goes("17", on, back, leapDay, 7999, "9999-2-28 1:2:3.4");
        goes("17", on, back, leapDay, -11999, "-9999-2-28 1:2:3.4");
        goes("17", on, back, FIRST, 19998, "9999-1-1 0:0:0.0");
        goes("17", on, back, LAST, -19998, "-9999-12-31 23:59:59.999999999");
        refuses("17", on, back, leapDay, 8000, -12000, 100000000, -100000000, 99999999, -99999999);
        refuses("17", on, back, FIRST, 19999);
        refuses("17", on, back, LAST, -19999);
        ends("17", on, back, "9998-12-31 23:59:59.999999999", "-9998-1-1 0:0:0.0");
    }

    // Promises 18, 25
    private static void months() {
        Go on = Daytimepair::plusMonths;
        Go back = Daytimepair::minusMonths;
        String late = "2024-1-31 1:2:3.4";
        goes("18", on, back, late, 0, late);
        goes("18", on, back, late, 1, "2024-2-29 1:2:3.4");
        goes("18", on, back, late, 3, "2024-4-30 1:2:3.4");
        goes("18", on, back, late, 11, "2024-12-31 1:2:3.4");
        goes("18", on, back, late, 12, "2025-1-31 1:2:3.4");
        goes("18", on, back, late, 13, "2025-2-28 1:2:3.4");
        goes("18", on, back, late, -1, "2023-12-31 1:2:3.4");
        goes("18", on, back, late, -11, "2023-2-28 1:2:3.4");
        goes("18", on, back, late, -12, "2023-1-31 1:2:3.4");
        goes("18", on, back, late, -2024 * 12, "0-1-31 1:2:3.4");
        goes("18", on, back, late, -2024 * 12 - 1, "-1-12-31 1:2:3.4");
        goes("18", on, back, late, 7975 * 12 + 11, "9999-12-31 1:2:3.4");
        goes("18", on, back, late, -12023 * 12, "-9999-1-31 1:2:3.4");
        goes("18", on, back, FIRST, 19999 * 12 - 1, "9999-12-1 0:0:0.0");
        goes("18", on, back, LAST, -19999 * 12 + 1, "-9999-1-31 23:59:59.999999999");
        refuses("18", on, back, late, 7975 * 12 + 12, -12023 * 12 - 1, MAX, -MAX);
        refuses("18", on, back, FIRST, 19999 * 12);
        refuses("18", on, back, LAST, -19999 * 12);
        refusesLeast("18", on, back);
        ends("18", on, back, "9999-11-30 23:59:59.999999999", "-9999-2-1 0:0:0.0");
    }

    // Promises 19, 26
    private static void weeks() {
        Go on = Daytimepair::plusWeeks;
        Go back = Daytimepair::minusWeeks;
        String leapDay = "2024-2-29 1:2:3.4";
        goes("19", on, back, leapDay, 1, "2024-3-7 1:2:3.4");
        goes("19", on, back, leapDay, -9, "2023-12-28 1:2:3.4");
        goes("19", on, back, leapDay, 20871, "2424-2-29 1:2:3.4");
        goes("19", on, back, FIRST, 1043497, "9999-12-27 0:0:0.0");
        goes("19", on, back, LAST, -1043497, "-9999-1-5 23:59:59.999999999");
        refuses("19", on, back, FIRST, 1043498);
        refuses("19", on, back, LAST, -1043498);
        // 7 times these are 3 and -3 days in 32 bits
        refuses("19", on, back, leapDay, 613566757, -613566757, 1 << 30, -(1 << 30));
        refusesLeast("19", on, back);
        ends("19", on, back, "9999-12-24 23:59:59.999999999", "-9999-1-8 0:0:0.0");
    }

    // Promises 20, 27
    private static void days() {
        Go on = Daytimepair::plusDays;
        Go back = Daytimepair::minusDays;
        String from = "2024-2-28 1:2:3.4";
        goes("20", on, back, from, 1, "2024-2-29 1:2:3.4");
        goes("20", on, back, from, 2, "2024-3-1 1:2:3.4");
        goes("20", on, back, from, -58, "2024-1-1 1:2:3.4");
        goes("20", on, back, from, -59, "2023-12-31 1:2:3.4");
        goes("20", on, back, from, 308, "2025-1-1 1:2:3.4");
        goes("20", on, back, from, 146097, "2424-2-28 1:2:3.4");
        goes("20", on, back, from, 2932896 - 19781, "9999-12-31 1:2:3.4");
        goes("20", on, back, from, -4371587 - 19781, "-9999-1-1 1:2:3.4");
        goes("20", on, back, FIRST, 2932896 + 4371587, "9999-12-31 0:0:0.0");
        goes("20", on, back, LAST, -2932896 - 4371587, "-9999-1-1 23:59:59.999999999");
        refuses("20", on, back, from, 2932897 - 19781, -4371588 - 19781, MAX, -MAX);
        refuses("20", on, back, FIRST, 2932896 + 4371588);
        refuses("20", on, back, LAST, -2932896 - 4371588);
        refusesLeast("20", on, back);
        ends("20", on, back, "9999-12-30 23:59:59.999999999", "-9999-1-2 0:0:0.0");
    }

    // Promises 21, 28
    private static void hours() {
        Go on = Daytimepair::plusHours;
        Go back = Daytimepair::minusHours;
        String from = "2024-2-28 1:2:3.4";
        goes("21", on, back, from, 1, "2024-2-28 2:2:3.4");
        goes("21", on, back, from, 22, "2024-2-28 23:2:3.4");
        goes("21", on, back, from, 23, "2024-2-29 0:2:3.4");
        goes("21", on, back, from, -1, "2024-2-28 0:2:3.4");
        goes("21", on, back, from, -2, "2024-2-27 23:2:3.4");
        goes("21", on, back, from, 24, "2024-2-29 1:2:3.4");
        goes("21", on, back, from, 50, "2024-3-1 3:2:3.4");
        goes("21", on, back, from, 24 * 146097, "2424-2-28 1:2:3.4");
        goes("21", on, back, from, -24 * 146097, "1624-2-28 1:2:3.4");
        goes("21", on, back, FIRST, 175307615, "9999-12-31 23:0:0.0");
        goes("21", on, back, LAST, -175307615, "-9999-1-1 0:59:59.999999999");
        refuses("21", on, back, FIRST, 175307616);
        refuses("21", on, back, LAST, -175307616);
        refusesLeast("21", on, back);
        ends("21", on, back, "9999-12-31 22:59:59.999999999", "-9999-1-1 1:0:0.0");
    }

    // Promises 22, 29
    private static void minutes() {
        Go on = Daytimepair::plusMinutes;
        Go back = Daytimepair::minusMinutes;
        String from = "2024-2-28 23:2:3.4";
        goes("22", on, back, from, 1, "2024-2-28 23:3:3.4");
        goes("22", on, back, from, 57, "2024-2-28 23:59:3.4");
        goes("22", on, back, from, 58, "2024-2-29 0:0:3.4");
        goes("22", on, back, from, -2, "2024-2-28 23:0:3.4");
        goes("22", on, back, from, -3, "2024-2-28 22:59:3.4");
        goes("22", on, back, from, -1382, "2024-2-28 0:0:3.4");
        goes("22", on, back, from, -1383, "2024-2-27 23:59:3.4");
        goes("22", on, back, from, 1440 * 146097, "2424-2-28 23:2:3.4");
        goes("22", on, back, from, MAX, "6107-3-24 1:9:3.4");
        goes("22", on, back, from, -MAX, "-2059-2-5 20:55:3.4");
        goesLeast("22", on, back, from, "-2059-2-5 20:54:3.4", "6107-3-24 1:10:3.4");
        Checks.dueRefused("22 on by -2147483648", FIRST, (x, m) -> x.plusMinutes(m, MIN));
        Checks.dueRefused("29 back by -2147483648", LAST, (x, m) -> x.minusMinutes(m, MIN));
        refuses("22", on, back, LAST, MAX);
        refuses("22", on, back, FIRST, -MAX);
        ends("22", on, back, "9999-12-31 23:58:59.999999999", "-9999-1-1 0:1:0.0");
    }

    // Promises 23, 30
    private static void seconds() {
        Go on = Daytimepair::plusSeconds;
        Go back = Daytimepair::minusSeconds;
        String from = "1970-1-1 0:0:0.4";
        goes("23", on, back, from, 1, "1970-1-1 0:0:1.4");
        goes("23", on, back, from, 59, "1970-1-1 0:0:59.4");
        goes("23", on, back, from, 60, "1970-1-1 0:1:0.4");
        goes("23", on, back, from, 3600, "1970-1-1 1:0:0.4");
        goes("23", on, back, from, 86399, "1970-1-1 23:59:59.4");
        goes("23", on, back, from, 86400, "1970-1-2 0:0:0.4");
        goes("23", on, back, from, -1, "1969-12-31 23:59:59.4");
        goes("23", on, back, from, -86400, "1969-12-31 0:0:0.4");
        goes("23", on, back, from, -86401, "1969-12-30 23:59:59.4");
        goes("23", on, back, from, MAX, "2038-1-19 3:14:7.4");
        goes("23", on, back, from, -MAX, "1901-12-13 20:45:53.4");
        goesLeast("23", on, back, from, "1901-12-13 20:45:52.4", "2038-1-19 3:14:8.4");
        Checks.dueRefused("23 on by -2147483648", FIRST, (x, m) -> x.plusSeconds(m, MIN));
        Checks.dueRefused("30 back by -2147483648", LAST, (x, m) -> x.minusSeconds(m, MIN));
        refuses("23", on, back, LAST, MAX);
        refuses("23", on, back, FIRST, -MAX);
        ends("23", on, back, "9999-12-31 23:59:58.999999999", "-9999-1-1 0:0:1.0");
    }

    private static void goesNanos(String from, int high, int low, String on, String back) {
        String told = " " + high + " " + low + " from " + from;
        Checks.dueMoved("31" + told, from, (x, m) -> x.plusNanos(m, high, low), on);
        Checks.dueMoved("32" + told, from, (x, m) -> x.minusNanos(m, high, low), back);
    }

    // Promises 31, 32
    private static void nanos() {
        String from = "1970-1-1 0:0:0.0";
        goesNanos(from, 0, 0, from, from);
        goesNanos(from, 0, 1, "1970-1-1 0:0:0.1", "1969-12-31 23:59:59.999999999");
        goesNanos(from, 0, -1, "1969-12-31 23:59:59.999999999", "1970-1-1 0:0:0.1");
        goesNanos(from, 0, 999999999, "1970-1-1 0:0:0.999999999", "1969-12-31 23:59:59.1");
        goesNanos(from, 0, 1000000000, "1970-1-1 0:0:1.0", "1969-12-31 23:59:59.0");
        goesNanos(from, 1, 0, "1970-1-1 0:0:1.0", "1969-12-31 23:59:59.0");
        goesNanos(from, 1, -1000000000, from, from);
        goesNanos(from, -1, 1, "1969-12-31 23:59:59.1", "1970-1-1 0:0:0.999999999");
        goesNanos(from, 86399, 999999999, "1970-1-1 23:59:59.999999999", "1969-12-31 0:0:0.1");
        goesNanos(from, 86400, 7, "1970-1-2 0:0:0.7", "1969-12-30 23:59:59.999999993");
        goesNanos(from, -86401, 7, "1969-12-30 23:59:59.7", "1970-1-2 0:0:0.999999993");
    }

    // "high * 1000000000 and low together (64 bits)"
    private static void nanosOf64Bits() {
        String from = "1970-1-1 0:0:0.0";
        goesNanos(from, 5, 0, "1970-1-1 0:0:5.0", "1969-12-31 23:59:55.0");
        goesNanos(from, 0, MAX, "1970-1-1 0:0:2.147483647", "1969-12-31 23:59:57.852516353");
        goesNanos(from, 0, MIN, "1969-12-31 23:59:57.852516352", "1970-1-1 0:0:2.147483648");
        goesNanos(from, MAX, 0, "2038-1-19 3:14:7.0", "1901-12-13 20:45:53.0");
        goesNanos(from, MIN, 0, "1901-12-13 20:45:52.0", "2038-1-19 3:14:8.0");
        goesNanos(from, MAX, MAX, "2038-1-19 3:14:9.147483647", "1901-12-13 20:45:50.852516353");
        goesNanos(from, MIN, MIN, "1901-12-13 20:45:49.852516352", "2038-1-19 3:14:10.147483648");
        goesNanos(from, MAX, MIN, "2038-1-19 3:14:4.852516352", "1901-12-13 20:45:55.147483648");
        goesNanos(from, MIN, MAX, "1901-12-13 20:45:54.147483647", "2038-1-19 3:14:5.852516353");
        goesNanos("1970-1-1 23:59:59.999999999", MAX, MAX, "2038-1-20 3:14:9.147483646",
                "1901-12-14 20:45:50.852516352");
    }

    private static void refusesNanos(String from, int high, int low) {
        Checks.dueRefused("31 " + high + " " + low + " from " + from, from, (x, m) -> x.plusNanos(m, high, low));
    }

    private static void refusesNanosBack(String from, int high, int low) {
        Checks.dueRefused("32 " + high + " " + low + " from " + from, from, (x, m) -> x.minusNanos(m, high, low));
    }

    private static void nanosRefused() {
        Go on = (x, m, n) -> x.plusNanos(m, 0, n);
        Go back = (x, m, n) -> x.minusNanos(m, 0, n);
        ends("31", on, back, "9999-12-31 23:59:59.999999998", "-9999-1-1 0:0:0.1");
        Go highOn = (x, m, n) -> x.plusNanos(m, n, 0);
        Go highBack = (x, m, n) -> x.minusNanos(m, n, 0);
        ends("31 high", highOn, highBack, "9999-12-31 23:59:58.999999999", "-9999-1-1 0:0:1.0");
        String lastDay = "9999-12-31 0:0:0.0";
        String firstDay = "-9999-1-1 23:59:59.999999999";
        Checks.dueMoved("31 a day less a nano", lastDay, (x, m) -> x.plusNanos(m, 86400, -1), LAST);
        Checks.dueMoved("32 a day less a nano", firstDay, (x, m) -> x.minusNanos(m, 86400, -1), FIRST);
        refusesNanos(lastDay, 86400, 0);
        refusesNanosBack(firstDay, 86400, 0);
        refusesNanos(LAST, MAX, MAX);
        refusesNanos(FIRST, MIN, MIN);
        refusesNanosBack(FIRST, MAX, MAX);
        refusesNanosBack(LAST, MIN, MIN);
        Checks.dueMoved("31 stays", LAST, (x, m) -> x.plusNanos(m, 2, -2000000000), LAST);
        Checks.dueMoved("32 stays", FIRST, (x, m) -> x.minusNanos(m, -2, 2000000000), FIRST);
    }

    private static void unit(String from, int many, int unit, String want) {
        Checks.dueMoved("33 " + many + " of unit " + unit + " from " + from, from, (x, m) -> x.plusUnits(m, many, unit),
                want);
    }

    // Promise 33
    private static void oneUnit() {
        String from = "2000-1-31 12:0:0.0";
        String[] on = {"2000-1-31 12:0:0.1", "2000-1-31 12:0:0.1000", "2000-1-31 12:0:0.1000000",
            "2000-1-31 12:0:1.0", "2000-1-31 12:1:0.0", "2000-1-31 13:0:0.0", "2000-2-1 0:0:0.0",
            "2000-2-1 12:0:0.0", "2000-2-7 12:0:0.0", "2000-2-29 12:0:0.0", "2001-1-31 12:0:0.0",
            "2010-1-31 12:0:0.0", "2100-1-31 12:0:0.0", "3000-1-31 12:0:0.0"};
        String[] back = {"2000-1-31 11:59:59.999999999", "2000-1-31 11:59:59.999999000",
            "2000-1-31 11:59:59.999000000", "2000-1-31 11:59:59.0", "2000-1-31 11:59:0.0", "2000-1-31 11:0:0.0",
            "2000-1-31 0:0:0.0", "2000-1-30 12:0:0.0", "2000-1-24 12:0:0.0", "1999-12-31 12:0:0.0",
            "1999-1-31 12:0:0.0", "1990-1-31 12:0:0.0", "1900-1-31 12:0:0.0", "1000-1-31 12:0:0.0"};
        for (int u = 0; u <= 13; u++) {
            unit(from, 0, u, from);
            unit(from, 1, u, on[u]);
            unit(from, -1, u, back[u]);
        }
    }

    /** From the last nano of a day on, and from the first one back. */
    private static void unitsCarry() {
        String late = "1999-12-31 23:59:59.999999999";
        String[] on = {"2000-1-1 0:0:0.0", "2000-1-1 0:0:0.999", "2000-1-1 0:0:0.999999", "2000-1-1 0:0:0.999999999",
            "2000-1-1 0:0:59.999999999", "2000-1-1 0:59:59.999999999", "2000-1-1 11:59:59.999999999",
            "2000-1-1 23:59:59.999999999", "2000-1-7 23:59:59.999999999"};
        String early = "2000-1-1 0:0:0.0";
        String[] back = {"1999-12-31 23:59:59.999999999", "1999-12-31 23:59:59.999999000",
            "1999-12-31 23:59:59.999000000", "1999-12-31 23:59:59.0", "1999-12-31 23:59:0.0", "1999-12-31 23:0:0.0",
            "1999-12-31 12:0:0.0", "1999-12-31 0:0:0.0", "1999-12-25 0:0:0.0"};
        for (int u = 0; u <= 8; u++) {
            unit(late, 1, u, on[u]);
            unit(early, -1, u, back[u]);
        }
    }

    private static void unitsOfMonths() {
        String leapDay = "2000-2-29 1:2:3.4";
        unit(leapDay, 12, 9, "2001-2-28 1:2:3.4");
        unit(leapDay, 48, 9, "2004-2-29 1:2:3.4");
        unit(leapDay, 1, 10, "2001-2-28 1:2:3.4");
        unit(leapDay, 1, 11, "2010-2-28 1:2:3.4");
        unit(leapDay, 2, 11, "2020-2-29 1:2:3.4");
        unit(leapDay, -1, 12, "1900-2-28 1:2:3.4");
        unit(leapDay, -4, 12, "1600-2-29 1:2:3.4");
        unit(leapDay, -1, 13, "1000-2-28 1:2:3.4");
        unit(leapDay, -2, 13, "0-2-29 1:2:3.4");
        unit(leapDay, 7999, 10, "9999-2-28 1:2:3.4");
        unit(leapDay, 799, 11, "9990-2-28 1:2:3.4");
        unit(leapDay, 79, 12, "9900-2-28 1:2:3.4");
        unit(leapDay, 7, 13, "9000-2-28 1:2:3.4");
        unit(leapDay, -11999, 10, "-9999-2-28 1:2:3.4");
        unit(leapDay, -1199, 11, "-9990-2-28 1:2:3.4");
        unit(leapDay, -119, 12, "-9900-2-28 1:2:3.4");
        unit(leapDay, -11, 13, "-9000-2-28 1:2:3.4");
    }

    /** The most that are let, 100000 on and back, of each UNIT that goes so far. */
    private static void unitsMany() {
        String from = "2000-1-31 12:0:0.0";
        String[] on = {"2000-1-31 12:0:0.100000", "2000-1-31 12:0:0.100000000", "2000-1-31 12:1:40.0",
            "2000-2-1 15:46:40.0", "2000-4-9 22:40:0.0", "2011-6-29 4:0:0.0", "2136-12-23 12:0:0.0",
            "2273-11-15 12:0:0.0", "3916-8-14 12:0:0.0"};
        String[] back = {"2000-1-31 11:59:59.999900000", "2000-1-31 11:59:59.900000000", "2000-1-31 11:58:20.0",
            "2000-1-30 8:13:20.0", "1999-11-23 1:20:0.0", "1988-9-3 20:0:0.0", "1863-3-10 12:0:0.0",
            "1726-4-17 12:0:0.0", "83-7-19 12:0:0.0"};
        for (int u = 0; u <= 8; u++) {
            unit(from, 100000, u, on[u]);
            unit(from, -100000, u, back[u]);
        }
        unit("-9999-1-31 12:0:0.0", 100000, 9, "-1666-5-31 12:0:0.0");
        unit("9999-12-31 12:0:0.0", -100000, 9, "1666-8-31 12:0:0.0");
    }

    private static void refusesUnit(String from, int many, int unit) {
        Checks.dueRefused("33 " + many + " of unit " + unit + " from " + from, from,
                (x, m) -> x.plusUnits(m, many, unit));
    }

    // "REFUSED if its YEAR would be out of its range"
    private static void unitsRefused() {
        for (int u = 0; u <= 13; u++) {
            unit(LAST, 0, u, LAST);
            unit(FIRST, 0, u, FIRST);
            refusesUnit(LAST, 1, u);
            refusesUnit(LAST, 100000, u);
            refusesUnit(FIRST, -1, u);
            refusesUnit(FIRST, -100000, u);
        }
        String leapDay = "2000-2-29 1:2:3.4";
        int[] beyond = {8000, 800, 80, 8};
        int[] ahead = {-12000, -1200, -120, -12};
        for (int u = 10; u <= 13; u++) {
            refusesUnit(leapDay, beyond[u - 10], u);
            refusesUnit(leapDay, ahead[u - 10], u);
            refusesUnit(leapDay, 100000, u);
            refusesUnit(leapDay, -100000, u);
        }
        refusesUnit(leapDay, 100000, 9);
        unit(leapDay, -100000, 9, "-6334-10-29 1:2:3.4");
    }

    /** A half day is 12 hours on the LINE, however many of them. */
    private static void halfDays() {
        String from = "2000-1-31 18:0:0.5";
        unit(from, 255, 6, "2000-6-7 6:0:0.5");
        unit(from, 256, 6, "2000-6-7 18:0:0.5");
        unit(from, 257, 6, "2000-6-8 6:0:0.5");
        unit(from, -255, 6, "1999-9-26 6:0:0.5");
        unit(from, -256, 6, "1999-9-25 18:0:0.5");
        unit(from, -257, 6, "1999-9-25 6:0:0.5");
        unit(from, 99999, 6, "2136-12-23 6:0:0.5");
        unit(from, -99999, 6, "1863-3-11 6:0:0.5");
    }
}
