import java.math.BigInteger;
import java.util.Arrays;

/** Promises 34 to 53: what a moment, and what two of them are asked for. */
public final class AskedTest {
    private static final String NO_GAP = "!";

    public static void main(String[] args) {
        parts();
        partsWrong();
        secondOfDayAndNano();
        lengthOfMonthAndLeap();
        fieldOfOne();
        fieldOfMidnight();
        fieldBelowZero();
        fieldEdges();
        fieldWrong();
        compareAndSame();
        isSameAs();
        betweenInUnits();
        betweenInMonths();
        betweenRefused();
        betweenWrong();
        Checks.end("AskedTest");
    }

    private static Daytimepair at(int year, int month, int day, int hour, int minute, int second, int nano) {
        Daytimepair x = new Daytimepair();
        set(x, 1, year, month, day, hour, minute, second, nano);
        return x;
    }

    private static void set(Daytimepair x, int moment, int... p) {
        x.hand(p[3], p[4], p[5], p[6]);
        x.of(moment, p[0], p[1], p[2], 2);
    }

    // Promises 34 to 43
    private static void parts() {
        Daytimepair x = at(-44, 3, 15, 13, 14, 15, 16);
        Checks.due("34 year", x.year(1), -44);
        Checks.due("35 month", x.month(1), 3);
        Checks.due("36 day of the month", x.dayOfMonth(1), 15);
        Checks.due("37 day of the year", x.dayOfYear(1), 75);
        Checks.due("38 day of the week", x.dayOfWeek(1), 4);
        Checks.due("39 hour", x.hour(1), 13);
        Checks.due("40 minute", x.minute(1), 14);
        Checks.due("41 second", x.second(1), 15);
        Checks.due("42 nano", x.nano(1), 16);
        Checks.due("43 day", x.day(1), -735525);
        Checks.due("34 of another one", x.year(0), 2000);
        x.of(1, 2024, 12, 31, 0);
        Checks.due("37 last of a leap year", x.dayOfYear(1), 366);
        x.of(1, 2100, 12, 31, 0);
        Checks.due("37 last of another year", x.dayOfYear(1), 365);
        for (int day = -10; day <= 10; day++) {
            x.ofDay(1, day);
            Checks.due("38 of the day " + day, x.dayOfWeek(1), Math.floorMod(day + 3, 7) + 1);
            Checks.due("43 of the day " + day, x.day(1), day);
        }
    }

    private static void partsWrong() {
        Daytimepair x = new Daytimepair();
        Checks.dueNoMoment("34", x, x::year);
        Checks.dueNoMoment("35", x, x::month);
        Checks.dueNoMoment("36", x, x::dayOfMonth);
        Checks.dueNoMoment("37", x, x::dayOfYear);
        Checks.dueNoMoment("38", x, x::dayOfWeek);
        Checks.dueNoMoment("39", x, x::hour);
        Checks.dueNoMoment("40", x, x::minute);
        Checks.dueNoMoment("41", x, x::second);
        Checks.dueNoMoment("42", x, x::nano);
        Checks.dueNoMoment("43", x, x::day);
        Checks.dueNoMoment("44", x, x::secondOfDay);
        Checks.dueNoMoment("45", x, x::lengthOfMonth);
        Checks.dueNoMoment("46", x, x::nanoOfDay);
        Checks.dueNoMoment("47", x, x::isLeap);
    }

    // Promises 44, 46
    private static void secondOfDayAndNano() {
        Daytimepair x = at(2000, 1, 1, 23, 59, 59, 999999999);
        Checks.due("44 last", x.secondOfDay(1), 86399);
        Checks.due("46 last", x.nanoOfDay(1), "86399999999999");
        Checks.due("44 first", x.secondOfDay(0), 0);
        Checks.due("46 first", x.nanoOfDay(0), "0");
        set(x, 2, 2000, 1, 1, 12, 34, 56, 789);
        Checks.due("44", x.secondOfDay(2), 45296);
        Checks.due("46", x.nanoOfDay(2), "45296000000789");
        x.plusNanos(0, 0, 1234567890);
        Checks.due("46 each digit", x.nanoOfDay(0), "1234567890");
    }

    // Promises 45, 47
    private static void lengthOfMonthAndLeap() {
        int[] lengths = {31, 28, 31, 30, 31, 30, 31, 31, 30, 31, 30, 31};
        Daytimepair x = new Daytimepair();
        for (int year : new int[] {2023, 2024, 1900, 2000, 0, -1, -4, -100, -400, -9999, 9999, 2100}) {
            boolean leap = year == 2024 || year == 2000 || year == 0 || year == -4 || year == -400;
            for (int month = 1; month <= 12; month++) {
                x.of(1, year, month, 1, 0);
                Checks.due("45 of " + year + " " + month, x.lengthOfMonth(1),
                        lengths[month - 1] + (leap && month == 2 ? 1 : 0));
                Checks.due("47 of " + year, x.isLeap(1), leap);
            }
        }
    }

    private static void fields(String what, Daytimepair x, String... wants) {
        String[] gots = new String[28];
        for (int field = 0; field <= 27; field++) {
            gots[field] = x.field(1, field);
        }
        Checks.due(what, Arrays.toString(gots), Arrays.toString(wants));
    }

    // Promise 48
    private static void fieldOfOne() {
        Daytimepair x = at(2024, 12, 31, 15, 16, 17, 123456789);
        fields("48 afternoon", x, "123456789", "54977123456789", "123456", "54977123456", "123", "54977123", "17",
                "54977", "16", "916", "3", "3", "15", "15", "1", "2", "3", "2", "31", "366", "20088", "5", "53",
                "12", "24299", "2024", "2024", "1");
        set(x, 1, 1, 1, 8, 12, 0, 0, 999);
        fields("48 noon", x, "999", "43200000000999", "0", "43200000000", "0", "43200000", "0", "43200", "0", "720",
                "0", "12", "12", "12", "1", "1", "1", "1", "8", "8", "-719155", "2", "2", "1", "12", "1", "1", "1");
    }

    private static void fieldOfMidnight() {
        Daytimepair x = at(2023, 7, 7, 0, 0, 0, 0);
        fields("48 midnight", x, "0", "0", "0", "0", "0", "0", "0", "0", "0", "0", "0", "12", "0", "24", "0", "5",
                "7", "6", "7", "188", "19545", "1", "27", "7", "24282", "2023", "2023", "1");
        x.withHour(1, 11);
        Checks.due("48 ahead of noon", x.field(1, 14), "0");
        x.withHour(1, 23);
        Checks.due("48 last hour", x.field(1, 13), "23");
        Checks.due("48 last hour of a half day", x.field(1, 11), "11");
    }

    private static void fieldBelowZero() {
        Daytimepair x = at(-9999, 1, 1, 0, 0, 0, 1);
        fields("48 first year", x, "1", "1", "0", "0", "0", "0", "0", "0", "0", "0", "0", "12", "0", "24", "0", "1",
                "1", "1", "1", "1", "-4371587", "1", "1", "1", "-119988", "10000", "-9999", "0");
        x.of(1, 0, 12, 31, 0);
        Checks.due("48 year 0", x.field(1, 24) + " " + x.field(1, 25) + " " + x.field(1, 26) + " " + x.field(1, 27),
                "11 1 0 0");
        x.of(1, -1, 12, 31, 0);
        Checks.due("48 year -1", x.field(1, 24) + " " + x.field(1, 25) + " " + x.field(1, 26) + " " + x.field(1, 27),
                "-1 2 -1 0");
    }

    private static void fieldEdges() {
        Daytimepair x = at(2000, 1, 7, 0, 0, 0, 999999999);
        Checks.due("48 most millis of a second", x.field(1, 4), "999");
        Checks.due("48 first week", x.field(1, 21) + x.field(1, 22), "11");
        set(x, 1, 2000, 1, 8, 0, 0, 0, 1000000);
        Checks.due("48 one of the millis", x.field(1, 4), "1");
        Checks.due("48 second week", x.field(1, 21) + x.field(1, 22), "22");
    }

    private static void fieldWrong() {
        Daytimepair x = new Daytimepair();
        for (int field : new int[] {-1, 28, Integer.MIN_VALUE, Integer.MAX_VALUE}) {
            Checks.dueThrow("48 field " + field, x, Checks.NO_ARGUMENT, () -> x.field(0, field));
        }
        Checks.dueNoMoment("48", x, m -> x.field(m, 28));
    }

    // Promises 49, 50
    private static void compareAndSame() {
        Daytimepair x = new Daytimepair();
        set(x, 0, 2000, 1, 1, 12, 0, 0, 0);
        set(x, 1, 2000, 1, 1, 12, 0, 0, 1);
        set(x, 2, 2000, 1, 2, 0, 0, 0, 0);
        set(x, 3, 2000, 1, 1, 12, 0, 0, 0);
        set(x, 4, -9999, 1, 1, 23, 59, 59, 999999999);
        set(x, 5, 9999, 12, 31, 0, 0, 0, 0);
        int[] ranks = {2, 3, 4, 2, 1, 5};
        for (int one = 0; one < 6; one++) {
            for (int other = 0; other < 6; other++) {
                Checks.due("49 " + one + " " + other, x.compare(one, other),
                        Integer.compare(ranks[one], ranks[other]));
                Checks.due("50 " + one + " " + other, x.isSame(one, other), ranks[one] == ranks[other]);
            }
        }
        Checks.dueNoMoment("49", x, m -> x.compare(m, 0));
        Checks.dueNoMoment("49 other", x, m -> x.compare(0, m));
        Checks.dueNoMoment("50", x, m -> x.isSame(m, 0));
        Checks.dueNoMoment("50 other", x, m -> x.isSame(0, m));
    }

    // Promise 51
    private static void isSameAs() {
        Daytimepair x = new Daytimepair();
        set(x, 0, -9999, 1, 1, 0, 0, 0, 0);
        set(x, 1, 9999, 12, 31, 23, 59, 59, 999999999);
        set(x, 2, 2024, 2, 29, 1, 2, 3, 4);
        for (int moment = 0; moment < 4; moment++) {
            for (int what = 0; what <= 4; what++) {
                Checks.due("51 " + what, x.isSameAs(moment, what), what >= 3);
            }
        }
        for (int what : new int[] {-1, 5, Integer.MIN_VALUE, Integer.MAX_VALUE}) {
            Checks.dueThrow("51 what " + what, x, Checks.NO_ARGUMENT, () -> x.isSameAs(0, what));
        }
        Checks.dueNoMoment("51", x, m -> x.isSameAs(m, 5));
    }

    /** between and until, both ways. */
    private static void gap(String what, Daytimepair x, int unit, String want, String wantBack) {
        Checks.due("52 " + what + ", unit " + unit, x.between(0, 1, unit), want);
        Checks.due("53 " + what + ", unit " + unit, x.until(0, 1, unit), want);
        Checks.due("52 back " + what + ", unit " + unit, x.between(1, 0, unit), wantBack);
        Checks.due("53 back " + what + ", unit " + unit, x.until(1, 0, unit), wantBack);
    }

    private static String minus(String number) {
        return number.equals("0") ? number : "-" + number;
    }

    // Promises 52, 53
    private static void betweenInUnits() {
        long[] sizes = {1L, 1000L, 1000000L, 1000000000L, 60000000000L, 3600000000000L, 43200000000000L,
            86400000000000L, 604800000000000L};
        int[][] starts = {{2000, 1, 1, 0, 0, 0, 0}, {2000, 1, 1, 23, 59, 59, 999999999}, {1969, 12, 31, 12, 30, 30, 5},
            {-9999, 1, 1, 0, 0, 0, 1}, {9999, 12, 31, 13, 14, 15, 16}, {2000, 1, 8, 0, 0, 0, 0},
            {2000, 1, 7, 23, 59, 59, 999999999}, {1999, 12, 25, 0, 0, 0, 1}, {2000, 1, 1, 0, 0, 0, 1}};
        for (int[] start : starts) {
            for (int[] end : starts) {
                Daytimepair x = new Daytimepair();
                set(x, 0, start);
                set(x, 1, end);
                BigInteger gap = lineOf(x, 1).subtract(lineOf(x, 0));
                for (int unit = Math.abs(x.day(0) - x.day(1)) > 100000 ? 1 : 0; unit <= 8; unit++) {
                    BigInteger many = gap.divide(BigInteger.valueOf(sizes[unit]));
                    gap(gap.toString(), x, unit, many.toString(), many.negate().toString());
                }
                Checks.due("52 nothing is refused", x.house(1), 0);
            }
        }
    }

    private static BigInteger lineOf(Daytimepair x, int moment) {
        return BigInteger.valueOf(x.day(moment)).multiply(BigInteger.valueOf(86400000000000L))
                .add(new BigInteger(x.nanoOfDay(moment)));
    }

    private static void betweenInMonths() {
        int[][] pairs = {
            {2024, 1, 28, 12, 2024, 2, 28, 12, 1}, {2024, 1, 28, 12, 2024, 2, 28, 11, 0},
            {2024, 1, 28, 12, 2024, 2, 27, 23, 0}, {2024, 1, 28, 12, 2024, 3, 1, 0, 1},
            {2024, 1, 10, 12, 2024, 2, 11, 11, 1}, {2024, 1, 10, 12, 2024, 1, 10, 12, 0}, {2024, 1, 10, 12, 2024, 1, 11, 12, 0},
            {2023, 12, 28, 0, 2024, 1, 28, 0, 1}, {2000, 1, 1, 0, 2010, 1, 1, 0, 120},
            {2000, 1, 1, 1, 2010, 1, 1, 0, 119}, {-1, 12, 1, 0, 1, 1, 1, 0, 13},
            {-9999, 1, 1, 0, 9999, 12, 28, 23, 239987}, {0, 1, 28, 0, 1000, 1, 28, 0, 12000},
            {0, 1, 28, 1, 1000, 1, 28, 0, 11999}, {0, 5, 28, 1, 100, 5, 28, 1, 1200}};
        int[] sizes = {1, 12, 120, 1200, 12000};
        for (int[] p : pairs) {
            Daytimepair x = new Daytimepair();
            set(x, 0, p[0], p[1], p[2], p[3], 0, 0, 0);
            set(x, 1, p[4], p[5], p[6], p[7], 0, 0, 0);
            for (int unit = 9; unit <= 13; unit++) {
                String many = String.valueOf(p[8] / sizes[unit - 9]);
                gap(Arrays.toString(p), x, unit, many, minus(many));
            }
            Checks.due("52 nothing is refused", x.house(1), 0);
        }
    }

    private static void betweenRefused() {
        Daytimepair x = new Daytimepair();
        x.ofDay(0, 0);
        x.ofDay(1, 100000);
        x.withHour(1, 23);
        gap("100000 days", x, 0, "8640082800000000000", "-8640082800000000000");
        x.withHour(1, 0);
        x.plusDays(1, 1);
        x.withHour(0, 23);
        dueNoGap(x, 0);
        gap("100001 days", x, 1, "8640003600000000", "-8640003600000000");
        x.of(0, 2000, 1, 28, 0);
        for (int day = 29; day <= 31; day++) {
            x.of(1, 2000, 3, day, 0);
            for (int unit = 9; unit <= 13; unit++) {
                dueNoGap(x, unit);
            }
            int self = day;
            Checks.dueRefused("52 with itself " + self, x, () -> x.between(1, 1, 9), NO_GAP);
        }
        Checks.due("52 the other units go", x.between(0, 1, 7), "63");
    }

    private static void dueNoGap(Daytimepair x, int unit) {
        Checks.dueRefused("52 refused " + unit, x, () -> x.between(0, 1, unit), NO_GAP);
        Checks.dueRefused("52 back refused " + unit, x, () -> x.between(1, 0, unit), NO_GAP);
        Checks.dueRefused("53 refused " + unit, x, () -> x.until(0, 1, unit), NO_GAP);
        Checks.dueRefused("53 back refused " + unit, x, () -> x.until(1, 0, unit), NO_GAP);
    }

    private static void betweenWrong() {
        Daytimepair x = new Daytimepair();
        x.of(0, 2000, 1, 31, 0);
        for (int unit : new int[] {-1, 14, Integer.MIN_VALUE, Integer.MAX_VALUE}) {
            Checks.dueThrow("52 unit " + unit, x, Checks.NO_ARGUMENT, () -> x.between(0, 1, unit));
            Checks.dueThrow("53 unit " + unit, x, Checks.NO_ARGUMENT, () -> x.until(0, 1, unit));
        }
        Checks.dueNoMoment("52", x, m -> x.between(m, 0, 14));
        Checks.dueNoMoment("52 other", x, m -> x.between(0, m, 9));
        Checks.dueNoMoment("53", x, m -> x.until(m, 0, 14));
        Checks.dueNoMoment("53 other", x, m -> x.until(0, m, 9));
    }
}
