import java.time.LocalDate;

/** The document's "1. Dates": each of its sentences by the words, over all of the calendar. */
public final class CalendarTest {
    private static final int FIRST_DAY = -4371587;
    private static final int LAST_DAY = 2932896;
    /** Few enough that no object is used for more than 512 calls. */
    private static final int DAYS_AN_OBJECT = 30;
    private static final int[] YEARS = {-9999, -9996, -401, -400, -100, -5, -4, -1, 0, 1, 4, 100, 400, 1900, 1999, 2000,
        2023, 2024, 2100, 9600, 9900, 9996, 9999};

    public static void main(String[] args) {
        everyDay();
        everyYear();
        yearsAroundZero();
        monthsAndDays();
        aroundTheFirstOf1970();
        lastDayOfAnotherMonth();
        lastDayOfAnotherYear();
        someMonthsAway();
        Checks.end("CalendarTest");
    }

    private static boolean isLeap(int year) {
        return year % 4 == 0 && year % 100 != 0 || year % 400 == 0;
    }

    private static int length(int year, int month) {
        return month == 2 && isLeap(year) ? 29 : Checks.LENGTHS[month - 1];
    }

    /** Each DAY against the Java library's calendar, both ways. */
    private static void everyDay() {
        Daytimepair x = new Daytimepair();
        LocalDate date = LocalDate.of(-9999, 1, 1);
        int week = 1;
        for (int day = FIRST_DAY; day <= LAST_DAY; day++) {
            if (day % DAYS_AN_OBJECT == 0) {
                x = new Daytimepair();
            }
            if (!isAsInLibrary(x, day, date, week)) {
                Checks.due("DAY " + day, Checks.momentOf(x, 0), date.toString());
            }
            date = date.plusDays(1);
            week = week == 7 ? 1 : week + 1;
        }
        Checks.due("the library's last day", date, LocalDate.of(10000, 1, 1));
    }

    private static boolean isAsInLibrary(Daytimepair x, int day, LocalDate date, int week) {
        return x.ofDay(0, day) == week && x.dayOfWeek(0) == week && x.day(0) == day && x.year(0) == date.getYear()
                && x.month(0) == date.getMonthValue() && x.dayOfMonth(0) == date.getDayOfMonth()
                && x.dayOfYear(0) == date.getDayOfYear() && x.lengthOfMonth(0) == date.lengthOfMonth()
                && x.isLeap(0) == date.isLeapYear()
                && x.of(1, date.getYear(), date.getMonthValue(), date.getDayOfMonth(), 2) == week && x.day(1) == day
                && x.withDayOfYear(1, 1) > 0 && x.withDayOfYear(1, date.getDayOfYear()) == week && x.day(1) == day;
    }

    // "A YEAR is a LEAP YEAR, if 4 divides it, and 100 does not or 400 does (0 is one, too)."
    private static void everyYear() {
        for (int year = -9999; year <= 9999; year++) {
            Daytimepair x = new Daytimepair();
            boolean leap = isLeap(year);
            x.of(2, year, 2, 28, 0);
            Checks.due("isLeap of " + year, x.isLeap(2), leap);
            Checks.due("lengthOfMonth of " + year, x.lengthOfMonth(2), leap ? 29 : 28);
            Checks.due("of, leap day of " + year, x.of(3, year, 2, 29, 0) > 0, leap);
            Checks.due("withDayOfMonth, leap day of " + year, x.withDayOfMonth(2, 29) > 0, leap);
            Checks.due("withDayOfYear, day 366 of " + year, x.withDayOfYear(2, 366) > 0, leap);
            x.of(4, year, 12, 31, 0);
            Checks.due("dayOfYear, last of " + year, x.dayOfYear(4), leap ? 366 : 365);
            Checks.due("REFUSED in " + year, x.house(1), leap ? 0 : 3);
        }
    }

    // "the year 0 is ahead of the year 1, -1 ahead of that, and so on"
    private static void yearsAroundZero() {
        Checks.dueMoved("behind the year -1", "-1-12-31 1:2:3.4", (x, m) -> x.plusDays(m, 1), "0-1-1 1:2:3.4");
        Checks.dueMoved("behind the year 0", "0-12-31 1:2:3.4", (x, m) -> x.plusDays(m, 1), "1-1-1 1:2:3.4");
        Checks.dueMoved("ahead of the year 1", "1-1-1 1:2:3.4", (x, m) -> x.minusDays(m, 1), "0-12-31 1:2:3.4");
        Checks.dueMoved("ahead of the year 0", "0-1-1 1:2:3.4", (x, m) -> x.minusDays(m, 1), "-1-12-31 1:2:3.4");
        Checks.dueMoved("a year behind -1", "-1-6-7 1:2:3.4", (x, m) -> x.plusYears(m, 1), "0-6-7 1:2:3.4");
        Checks.dueMoved("a year ahead of 1", "1-6-7 1:2:3.4", (x, m) -> x.minusYears(m, 1), "0-6-7 1:2:3.4");
    }

    // "MONTHS are 1 to 12, with 31, 28, .. days"; "The day of the month is from 1 on, that of the YEAR, too."
    private static void monthsAndDays() {
        for (int year : YEARS) {
            int dayOfYear = 1;
            for (int month = 1; month <= 12; month++) {
                Daytimepair x = new Daytimepair();
                x.of(1, year, month, 1, 0);
                Checks.due("lengthOfMonth " + year + " " + month, x.lengthOfMonth(1), length(year, month));
                Checks.due("dayOfYear of the first day " + year + " " + month, x.dayOfYear(1), dayOfYear);
                dayOfYear += length(year, month);
                x.of(1, year, month, length(year, month), 0);
                Checks.due("dayOfYear of the last day " + year + " " + month, x.dayOfYear(1), dayOfYear - 1);
                for (int day = length(year, month) + 1; day <= 31; day++) {
                    Checks.due("no such day " + year + " " + month + " " + day, x.of(1, year, month, day, 0), -9);
                }
            }
        }
    }

    // "DAY of a date: how many days it is behind the first day of the YEAR 1970"; "that of the DAY 0 is 4"
    private static void aroundTheFirstOf1970() {
        int[] weeks = {2, 3, 4, 5, 6, 7, 1, 2};
        for (int day = -2; day <= 5; day++) {
            Daytimepair x = new Daytimepair();
            Checks.due("week of the DAY " + day, x.ofDay(5, day), weeks[day + 2]);
            Checks.due("DAY " + day, x.day(5), day);
            Checks.due("day of the month of the DAY " + day, x.dayOfMonth(5), day < 0 ? 32 + day : day + 1);
        }
    }

    // "A date with another YEAR or MONTH .. has the same day of the month; if there is none such, the last one"
    private static void lastDayOfAnotherMonth() {
        for (int year : new int[] {1900, 2000, 2023, 2024}) {
            for (int month = 1; month <= 12; month++) {
                for (int day = 27; day <= length(year, month); day++) {
                    everyOtherMonth(year, month, day);
                }
            }
        }
    }

    private static void everyOtherMonth(int year, int month, int day) {
        for (int other = 1; other <= 12; other++) {
            Daytimepair x = new Daytimepair();
            x.of(3, year, month, day, 0);
            x.copy(4, 3);
            x.copy(5, 3);
            x.withMonth(3, other);
            x.plusMonths(4, other - month);
            x.minusMonths(5, month - other);
            String what = year + "-" + month + "-" + day + " with the month " + other;
            String want = year + "-" + other + "-" + Math.min(day, length(year, other)) + " 0:0:0.0";
            Checks.due("withMonth " + what, Checks.momentOf(x, 3), want);
            Checks.due("plusMonths " + what, Checks.momentOf(x, 4), want);
            Checks.due("minusMonths " + what, Checks.momentOf(x, 5), want);
        }
    }

    private static void lastDayOfAnotherYear() {
        for (int year : YEARS) {
            for (int other : YEARS) {
                for (int day = 28; day <= length(year, 2); day++) {
                    Daytimepair x = new Daytimepair();
                    x.of(3, year, 2, day, 0);
                    x.copy(4, 3);
                    x.copy(5, 3);
                    x.withYear(3, other);
                    x.plusYears(4, other - year);
                    x.minusYears(5, year - other);
                    String what = year + "-2-" + day + " with the year " + other;
                    String want = other + "-2-" + Math.min(day, length(other, 2)) + " 0:0:0.0";
                    Checks.due("withYear " + what, Checks.momentOf(x, 3), want);
                    Checks.due("plusYears " + what, Checks.momentOf(x, 4), want);
                    Checks.due("minusYears " + what, Checks.momentOf(x, 5), want);
                }
            }
        }
    }

    // "Some months away: MONTHS are counted on, 12 a YEAR."
    private static void someMonthsAway() {
        for (int start : new int[] {-9999, -1, 0, 1, 2000, 9999}) {
            for (int many = -26; many <= 26; many++) {
                int year = start;
                int month = 6;
                for (int n = 0; n < Math.abs(many); n++) {
                    month += many < 0 ? -1 : 1;
                    year += month == 13 ? 1 : month == 0 ? -1 : 0;
                    month = month == 13 ? 1 : month == 0 ? 12 : month;
                }
                Daytimepair x = new Daytimepair();
                x.of(0, start, 6, 15, 0);
                boolean out = year < -9999 || year > 9999;
                String want = out ? start + "-6-15 0:0:0.0" : year + "-" + month + "-15 0:0:0.0";
                Checks.due("plusMonths " + start + " " + many, x.plusMonths(0, many) == -9, out);
                Checks.due("plusMonths " + start + " " + many, Checks.momentOf(x, 0), want);
            }
        }
    }
}
