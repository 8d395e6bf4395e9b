/** Promises 34 to 48: what a moment is asked for. */
public final class AskedTest {
    public static void main(String[] args) {
        parts();
        partsAtTheEnds();
        secondOfDayAndNano();
        fieldOfOne();
        fieldOfMidnight();
        fieldAtTheEnds();
        fieldsOfSecond();
        fieldsOfHour();
        fieldsOfWeek();
        fieldsOfYear();
        Checks.end("AskedTest");
    }

    private static void asked(String what, String from, Checks.MomentCall call, Object want) {
        for (int m = 0; m < 6; m++) {
            int moment = m;
            Checks.dueAnswer(what + " of " + from + ", moment " + m, Checks.start(m, from), x -> call.on(x, moment),
                    want);
        }
    }

    // Promises 34 to 47
    private static void partsOf(String from, int dayOfYear, int dayOfWeek, int day, int secondOfDay, int lengthOfMonth,
            boolean isLeap) {
        asked("37 dayOfYear", from, Daytimepair::dayOfYear, dayOfYear);
        asked("38 dayOfWeek", from, Daytimepair::dayOfWeek, dayOfWeek);
        asked("43 day", from, Daytimepair::day, day);
        asked("44 secondOfDay", from, Daytimepair::secondOfDay, secondOfDay);
        asked("45 lengthOfMonth", from, Daytimepair::lengthOfMonth, lengthOfMonth);
        asked("47 isLeap", from, Daytimepair::isLeap, isLeap);
    }

    private static void parts() {
        String from = "-44-3-15 13:14:15.16";
        asked("34 year", from, Daytimepair::year, -44);
        asked("35 month", from, Daytimepair::month, 3);
        asked("36 dayOfMonth", from, Daytimepair::dayOfMonth, 15);
        asked("39 hour", from, Daytimepair::hour, 13);
        asked("40 minute", from, Daytimepair::minute, 14);
        asked("41 second", from, Daytimepair::second, 15);
        asked("42 nano", from, Daytimepair::nano, 16);
        partsOf(from, 75, 4, -735525, 47655, 31, true);
        partsOf("2024-2-29 0:0:59.0", 60, 4, 19782, 59, 29, true);
        partsOf("2024-12-31 0:1:0.0", 366, 2, 20088, 60, 31, true);
        partsOf("2100-12-31 1:0:0.0", 365, 5, 47846, 3600, 31, false);
        partsOf("1900-2-1 12:0:0.0", 32, 4, -25536, 43200, 28, false);
        partsOf("2000-4-30 23:59:0.0", 121, 7, 11077, 86340, 30, true);
        partsOf("0-2-1 0:0:0.0", 32, 2, -719497, 0, 29, true);
        partsOf("-1-2-1 0:0:0.0", 32, 1, -719862, 0, 28, false);
    }

    private static void partsAtTheEnds() {
        asked("34 year", Checks.FIRST, Daytimepair::year, -9999);
        asked("34 year", Checks.LAST, Daytimepair::year, 9999);
        asked("34 year", "0-6-5 1:2:3.4", Daytimepair::year, 0);
        asked("35 month", Checks.FIRST, Daytimepair::month, 1);
        asked("35 month", Checks.LAST, Daytimepair::month, 12);
        asked("36 dayOfMonth", Checks.FIRST, Daytimepair::dayOfMonth, 1);
        asked("36 dayOfMonth", Checks.LAST, Daytimepair::dayOfMonth, 31);
        asked("39 hour", Checks.FIRST, Daytimepair::hour, 0);
        asked("39 hour", Checks.LAST, Daytimepair::hour, 23);
        asked("40 minute", Checks.FIRST, Daytimepair::minute, 0);
        asked("40 minute", Checks.LAST, Daytimepair::minute, 59);
        asked("41 second", Checks.FIRST, Daytimepair::second, 0);
        asked("41 second", Checks.LAST, Daytimepair::second, 59);
        asked("42 nano", Checks.FIRST, Daytimepair::nano, 0);
        asked("42 nano", Checks.LAST, Daytimepair::nano, 999999999);
        partsOf(Checks.FIRST, 1, 1, -4371587, 0, 31, false);
        partsOf(Checks.LAST, 365, 5, 2932896, 86399, 31, false);
    }

    // Promises 44, 46: "whole seconds of its day", "its NANO in digits"
    private static void secondOfDayAndNano() {
        String[] times = {"0:0:0.0", "0:0:0.1", "0:0:0.999999999", "0:0:1.0", "0:0:1.1", "12:34:56.789",
            "23:59:59.0", "23:59:59.999999999"};
        int[] seconds = {0, 0, 0, 1, 1, 45296, 86399, 86399};
        String[] nanos = {"0", "1", "999999999", "1000000000", "1000000001", "45296000000789", "86399000000000",
            "86399999999999"};
        for (int i = 0; i < times.length; i++) {
            asked("44 secondOfDay", "-1-12-31 " + times[i], Daytimepair::secondOfDay, seconds[i]);
            asked("46 nanoOfDay", "-1-12-31 " + times[i], Daytimepair::nanoOfDay, nanos[i]);
        }
        asked("46 each digit", "2000-1-1 6:30:45.678901234", Daytimepair::nanoOfDay, "23445678901234");
        asked("46 zeros between", "2000-1-1 2:46:40.0", Daytimepair::nanoOfDay, "10000000000000");
    }

    // Promise 48
    private static void fields(String from, String... wants) {
        for (int f = 0; f <= 27; f++) {
            int field = f;
            asked("48 field " + f, from, (x, m) -> x.field(m, field), wants[f]);
        }
    }

    private static void fieldOfOne() {
        fields("2024-12-31 15:16:17.123456789", "123456789", "54977123456789", "123456", "54977123456", "123",
                "54977123", "17", "54977", "16", "916", "3", "3", "15", "15", "1", "2", "3", "2", "31", "366", "20088",
                "5", "53", "12", "24299", "2024", "2024", "1");
        fields("1-1-8 12:0:0.999", "999", "43200000000999", "0", "43200000000", "0", "43200000", "0", "43200", "0",
                "720", "0", "12", "12", "12", "1", "1", "1", "1", "8", "8", "-719155", "2", "2", "1", "12", "1", "1",
                "1");
    }

    private static void fieldOfMidnight() {
        fields("2023-7-7 0:0:0.0", "0", "0", "0", "0", "0", "0", "0", "0", "0", "0", "0", "12", "0", "24", "0", "5",
                "7", "6", "7", "188", "19545", "1", "27", "7", "24282", "2023", "2023", "1");
    }

    private static void fieldAtTheEnds() {
        fields(Checks.FIRST, "0", "0", "0", "0", "0", "0", "0", "0", "0", "0", "0", "12", "0", "24", "0", "1", "1",
                "1", "1", "1", "-4371587", "1", "1", "1", "-119988", "10000", "-9999", "0");
        fields(Checks.LAST, "999999999", "86399999999999", "999999", "86399999999", "999", "86399999", "59", "86399",
                "59", "1439", "11", "11", "23", "23", "1", "5", "3", "1", "31", "365", "2932896", "5", "53", "12",
                "119999", "9999", "9999", "1");
        fields("1969-12-31 12:59:59.0", "0", "46799000000000", "0", "46799000000", "0", "46799000", "59", "46799",
                "59", "779", "0", "12", "12", "12", "1", "3", "3", "1", "31", "365", "-1", "5", "53", "12", "23639",
                "1969", "1969", "1");
    }

    private static void field(int field, String from, String want) {
        asked("48 field " + field, from, (x, m) -> x.field(m, field), want);
    }

    // "divided by 1000, rounded down; 4, 5 likewise by 1000000"; "7 NANO divided by 1000000000, rounded down"
    private static void fieldsOfSecond() {
        int[] nanos = {0, 1, 999, 1000, 1999, 999999, 1000000, 1999999, 999999999};
        for (int nano : nanos) {
            String from = "2000-1-1 0:0:2." + nano;
            field(0, from, String.valueOf(nano));
            field(1, from, String.valueOf(2000000000L + nano));
            field(2, from, String.valueOf(nano / 1000));
            field(3, from, String.valueOf(2000000 + nano / 1000));
            field(4, from, String.valueOf(nano / 1000000));
            field(5, from, String.valueOf(2000 + nano / 1000000));
            field(6, from, "2");
            field(7, from, "2");
            field(9, from, "0");
        }
        field(6, "2000-1-1 1:0:59.0", "59");
        field(7, "2000-1-1 1:0:59.999999999", "3659");
        field(8, "2000-1-1 1:59:59.0", "59");
        field(9, "2000-1-1 1:0:59.999999999", "60");
        field(9, "2000-1-1 1:1:0.0", "61");
    }

    // "10 hour modulo 12; 11 that, but 12 for 0; 12 hour; 13 that, but 24 for 0;
    // 14 0 ahead of the hour 12, otherwise 1"
    private static void fieldsOfHour() {
        for (int hour = 0; hour <= 23; hour++) {
            String from = "2000-1-1 " + hour + ":59:59.999999999";
            field(10, from, String.valueOf(hour % 12));
            field(11, from, String.valueOf(hour == 0 || hour == 12 ? 12 : hour % 12));
            field(12, from, String.valueOf(hour));
            field(13, from, String.valueOf(hour == 0 ? 24 : hour));
            field(14, from, hour < 12 ? "0" : "1");
        }
    }

    // "16 (day of the month less 1) modulo 7, and 1; 17 (day of the YEAR ..)";
    // "21 (day of the month less 1) divided by 7, rounded down, and 1; 22 likewise of the day of the YEAR"
    private static void fieldsOfWeek() {
        int[] days = {1, 6, 7, 8, 14, 15, 21, 22, 28, 29, 31};
        int[] remainders = {1, 6, 7, 1, 7, 1, 7, 1, 7, 1, 3};
        int[] weeks = {1, 1, 1, 2, 2, 3, 3, 4, 4, 5, 5};
        for (int i = 0; i < days.length; i++) {
            field(16, "2000-1-" + days[i] + " 0:0:0.0", String.valueOf(remainders[i]));
            field(17, "2000-1-" + days[i] + " 0:0:0.0", String.valueOf(remainders[i]));
            field(21, "2000-1-" + days[i] + " 0:0:0.0", String.valueOf(weeks[i]));
            field(22, "2000-1-" + days[i] + " 0:0:0.0", String.valueOf(weeks[i]));
            field(16, "2000-12-" + days[i] + " 0:0:0.0", String.valueOf(remainders[i]));
            field(21, "2000-12-" + days[i] + " 0:0:0.0", String.valueOf(weeks[i]));
        }
        field(17, "2000-12-29 0:0:0.0", "7");
        field(17, "2000-12-30 0:0:0.0", "1");
        field(22, "2000-12-29 0:0:0.0", "52");
        field(22, "2000-12-30 0:0:0.0", "53");
        for (int day = 0; day < 7; day++) {
            field(15, "1970-1-" + (5 + day) + " 0:0:0.0", String.valueOf(1 + day));
        }
    }

    // "24 12 * YEAR and MONTH less 1; 25 YEAR, or, if that is 0 or less, 1 - YEAR; 26 YEAR;
    // 27 1 of a YEAR above 0, otherwise 0"
    private static void fieldsOfYear() {
        int[] years = {-9999, -2, -1, 0, 1, 2, 9999};
        String[] counts = {"-119988", "-24", "-12", "0", "12", "24", "119988"};
        String[] ofEra = {"10000", "3", "2", "1", "1", "2", "9999"};
        for (int i = 0; i < years.length; i++) {
            String from = years[i] + "-1-1 0:0:0.0";
            field(24, from, counts[i]);
            field(25, from, ofEra[i]);
            field(26, from, String.valueOf(years[i]));
            field(27, from, years[i] > 0 ? "1" : "0");
        }
        field(24, "-1-12-31 0:0:0.0", "-1");
        field(24, "0-12-31 0:0:0.0", "11");
        field(20, "1970-1-1 23:59:59.999999999", "0");
        field(20, "1969-12-31 23:59:59.999999999", "-1");
        field(20, "1970-1-2 0:0:0.0", "1");
    }
}
