/** Six moments, each a day of the calendar and a time of that day. */
public final class Daytimepair {
    private static final int REFUSED = -9;
    private static final String REFUSED_TEXT = "!";
    private static final int MOMENTS = 6;

    private static final int FIRST_YEAR = -9999;
    private static final int LAST_YEAR = 9999;
    /** The DAY of the first day of the year -9999, and of the last one of the year 9999. */
    private static final long FIRST_DAY = -4371587L;
    private static final long LAST_DAY = 2932896L;
    /** How many days the first day of the year 0 is ahead of the DAY 0. */
    private static final long DAYS_FROM_YEAR_0 = 719528L;
    private static final int CYCLE_YEARS = 400;
    private static final long CYCLE_DAYS = 146097L;
    private static final int FARTHEST_DAY = 10000000;
    /** The days of a year ahead of each month, without the leap day. */
    private static final int[] DAYS_AHEAD = {0, 31, 59, 90, 120, 151, 181, 212, 243, 273, 304, 334};

    private static final long SECOND_NANOS = 1000000000L;
    private static final long MINUTE_NANOS = 60L * SECOND_NANOS;
    private static final long HOUR_NANOS = 60L * MINUTE_NANOS;
    private static final long DAY_NANOS = 24L * HOUR_NANOS;

    private static final int UNIT_NANOS = 0;
    private static final int UNIT_SECONDS = 3;
    private static final int UNIT_MINUTES = 4;
    private static final int UNIT_HOURS = 5;
    private static final int UNIT_DAYS = 7;
    private static final int UNIT_WEEKS = 8;
    private static final int UNIT_MONTHS = 9;
    private static final int UNIT_YEARS = 10;
    private static final int LAST_UNIT = 13;
    private static final int LAST_FIELD = 27;
    private static final int LAST_TIME_FIELD = 14;

    private static final int MOST_YEARS = 100000000;
    private static final int MOST_UNITS = 100000;
    /** Nanos between days farther apart are refused: they might not fit into 64 bits. */
    private static final long FARTHEST_FOR_NANOS = 100000L;
    /** The last day that each month has: months between later days are refused. */
    private static final int SURE_DAY_OF_MONTH = 28;
    /** The digits of the greatest number of 64 bits. */
    private static final int MOST_DIGITS = 19;

    private final int[] years;
    private final int[] months;
    private final int[] monthDays;
    private final long[] days;
    private final long[] nanos;
    private int handHour;
    private int handMinute;
    private int handSecond;
    private int handNano;
    private int changes;
    private int refusals;
    private int knocks;

    public Daytimepair() {
        years = new int[MOMENTS];
        months = new int[MOMENTS];
        monthDays = new int[MOMENTS];
        days = new long[MOMENTS];
        nanos = new long[MOMENTS];
        for (int moment = 0; moment < MOMENTS; moment++) {
            years[moment] = 2000;
            months[moment] = 1;
            monthDays[moment] = 1;
            days[moment] = firstDayOf(2000);
        }
    }

    // ---- made

    public int hand(int hour, int minute, int second, int nano) throws IllegalArgumentException {
        checkRange(hour, 0, 23);
        checkRange(minute, 0, 59);
        checkRange(second, 0, 59);
        checkRange(nano, 0, 999999999);
        int before = handHour;
        handHour = hour;
        handMinute = minute;
        handSecond = second;
        handNano = nano;
        return before;
    }

    public int of(int moment, int year, int month, int day, int how)
            throws IndexOutOfBoundsException, IllegalArgumentException {
        checkMoment(moment);
        checkRange(year, FIRST_YEAR, LAST_YEAR);
        checkRange(month, 1, 12);
        checkRange(day, 1, 31);
        checkRange(how, 0, 6);
        return becomeDate(moment, year, month, day, handTime(how));
    }

    public int ofDay(int moment, int day) throws IndexOutOfBoundsException, IllegalArgumentException {
        checkMoment(moment);
        checkRange(day, -FARTHEST_DAY, FARTHEST_DAY);
        return becomeDay(moment, day, handTime(2));
    }

    public int copy(int moment, int other) throws IndexOutOfBoundsException {
        checkMoment(moment);
        checkMoment(other);
        return becomeAs(moment, other, nanos[other]);
    }

    public int takeDate(int moment, int other) throws IndexOutOfBoundsException {
        checkMoment(moment);
        checkMoment(other);
        return becomeAs(moment, other, nanos[moment]);
    }

    public int takeTime(int moment, int other) throws IndexOutOfBoundsException {
        checkMoment(moment);
        checkMoment(other);
        return becomeAs(moment, moment, nanos[other]);
    }

    // ---- one part

    public int withYear(int moment, int year) throws IndexOutOfBoundsException, IllegalArgumentException {
        checkMoment(moment);
        checkRange(year, FIRST_YEAR, LAST_YEAR);
        return becomeMonth(moment, year, months[moment]);
    }

    public int withMonth(int moment, int month) throws IndexOutOfBoundsException, IllegalArgumentException {
        checkMoment(moment);
        checkRange(month, 1, 12);
        return becomeMonth(moment, years[moment], month);
    }

    public int withDayOfMonth(int moment, int day) throws IndexOutOfBoundsException, IllegalArgumentException {
        checkMoment(moment);
        checkRange(day, 1, 31);
        return becomeDate(moment, years[moment], months[moment], day, nanos[moment]);
    }

    public int withDayOfYear(int moment, int day) throws IndexOutOfBoundsException, IllegalArgumentException {
        checkMoment(moment);
        checkRange(day, 1, 366);
        if (day > yearLength(years[moment])) {
            return refuse();
        }
        return becomeDay(moment, firstDayOf(years[moment]) + day - 1, nanos[moment]);
    }

    public int withHour(int moment, int hour) throws IndexOutOfBoundsException, IllegalArgumentException {
        checkMoment(moment);
        checkRange(hour, 0, 23);
        long nano = nanos[moment];
        return becomeAs(moment, moment, nano + (hour - hourOf(nano)) * HOUR_NANOS);
    }

    public int withMinute(int moment, int minute) throws IndexOutOfBoundsException, IllegalArgumentException {
        checkMoment(moment);
        checkRange(minute, 0, 59);
        long nano = nanos[moment];
        return becomeAs(moment, moment, nano + (minute - minuteOf(nano)) * MINUTE_NANOS);
    }

    public int withSecond(int moment, int second) throws IndexOutOfBoundsException, IllegalArgumentException {
        checkMoment(moment);
        checkRange(second, 0, 59);
        long nano = nanos[moment];
        return becomeAs(moment, moment, nano + (second - secondOf(nano)) * SECOND_NANOS);
    }

    public int withNano(int moment, int nano) throws IndexOutOfBoundsException, IllegalArgumentException {
        checkMoment(moment);
        checkRange(nano, 0, 999999999);
        long before = nanos[moment];
        return becomeAs(moment, moment, before + nano - nanoOfSecond(before));
    }

    public int truncate(int moment, int unit) throws IndexOutOfBoundsException, IllegalArgumentException {
        checkMoment(moment);
        checkRange(unit, UNIT_NANOS, UNIT_DAYS);
        return becomeAs(moment, moment, cutNano(nanos[moment], unit));
    }

    // ---- more, less

    public int plusYears(int moment, int many) throws IndexOutOfBoundsException, IllegalArgumentException {
        checkMoment(moment);
        checkRange(many, -MOST_YEARS, MOST_YEARS);
        return goMonths(moment, 12L * many);
    }

    public int plusMonths(int moment, int many) throws IndexOutOfBoundsException {
        checkMoment(moment);
        return goMonths(moment, many);
    }

    public int plusWeeks(int moment, int many) throws IndexOutOfBoundsException {
        checkMoment(moment);
        return goUnits(moment, many, UNIT_WEEKS);
    }

    public int plusDays(int moment, int many) throws IndexOutOfBoundsException {
        checkMoment(moment);
        return goUnits(moment, many, UNIT_DAYS);
    }

    public int plusHours(int moment, int many) throws IndexOutOfBoundsException {
        checkMoment(moment);
        return goUnits(moment, many, UNIT_HOURS);
    }

    public int plusMinutes(int moment, int many) throws IndexOutOfBoundsException {
        checkMoment(moment);
        return goUnits(moment, many, UNIT_MINUTES);
    }

    public int plusSeconds(int moment, int many) throws IndexOutOfBoundsException {
        checkMoment(moment);
        return goUnits(moment, many, UNIT_SECONDS);
    }

    public int minusYears(int moment, int many) throws IndexOutOfBoundsException, IllegalArgumentException {
        checkMoment(moment);
        checkRange(many, -MOST_YEARS, MOST_YEARS);
        return goMonths(moment, -12L * many);
    }

    public int minusMonths(int moment, int many) throws IndexOutOfBoundsException {
        checkMoment(moment);
        return goMonths(moment, -(long) many);
    }

    public int minusWeeks(int moment, int many) throws IndexOutOfBoundsException {
        checkMoment(moment);
        return goUnits(moment, -(long) many, UNIT_WEEKS);
    }

    public int minusDays(int moment, int many) throws IndexOutOfBoundsException {
        checkMoment(moment);
        return goUnits(moment, -(long) many, UNIT_DAYS);
    }

    public int minusHours(int moment, int many) throws IndexOutOfBoundsException {
        checkMoment(moment);
        return goUnits(moment, -(long) many, UNIT_HOURS);
    }

    public int minusMinutes(int moment, int many) throws IndexOutOfBoundsException {
        checkMoment(moment);
        return goUnits(moment, -(long) many, UNIT_MINUTES);
    }

    public int minusSeconds(int moment, int many) throws IndexOutOfBoundsException {
        checkMoment(moment);
        return goUnits(moment, -(long) many, UNIT_SECONDS);
    }

    public int plusNanos(int moment, int high, int low) throws IndexOutOfBoundsException {
        checkMoment(moment);
        return goLine(moment, 0L, high * SECOND_NANOS + low);
    }

    public int minusNanos(int moment, int high, int low) throws IndexOutOfBoundsException {
        checkMoment(moment);
        return goLine(moment, 0L, -(high * SECOND_NANOS + low));
    }

    public int plusUnits(int moment, int many, int unit)
            throws IndexOutOfBoundsException, IllegalArgumentException {
        checkMoment(moment);
        checkRange(many, -MOST_UNITS, MOST_UNITS);
        checkRange(unit, UNIT_NANOS, LAST_UNIT);
        if (unit < UNIT_MONTHS) {
            return goUnits(moment, many, unit);
        }
        return goMonths(moment, many * monthsOfUnit(unit));
    }

    // ---- asked

    public int year(int moment) throws IndexOutOfBoundsException {
        checkMoment(moment);
        return years[moment];
    }

    public int month(int moment) throws IndexOutOfBoundsException {
        checkMoment(moment);
        return months[moment];
    }

    public int dayOfMonth(int moment) throws IndexOutOfBoundsException {
        checkMoment(moment);
        return monthDays[moment];
    }

    public int dayOfYear(int moment) throws IndexOutOfBoundsException {
        checkMoment(moment);
        return yearDay(moment);
    }

    public int dayOfWeek(int moment) throws IndexOutOfBoundsException {
        checkMoment(moment);
        return weekday(days[moment]);
    }

    public int hour(int moment) throws IndexOutOfBoundsException {
        checkMoment(moment);
        return hourOf(nanos[moment]);
    }

    public int minute(int moment) throws IndexOutOfBoundsException {
        checkMoment(moment);
        return minuteOf(nanos[moment]);
    }

    public int second(int moment) throws IndexOutOfBoundsException {
        checkMoment(moment);
        return secondOf(nanos[moment]);
    }

    public int nano(int moment) throws IndexOutOfBoundsException {
        checkMoment(moment);
        return nanoOfSecond(nanos[moment]);
    }

    public int day(int moment) throws IndexOutOfBoundsException {
        checkMoment(moment);
        return (int) days[moment];
    }

    public int secondOfDay(int moment) throws IndexOutOfBoundsException {
        checkMoment(moment);
        return (int) (nanos[moment] / SECOND_NANOS);
    }

    public int lengthOfMonth(int moment) throws IndexOutOfBoundsException {
        checkMoment(moment);
        return monthLength(years[moment], months[moment]);
    }

    public String nanoOfDay(int moment) throws IndexOutOfBoundsException {
        checkMoment(moment);
        return digitsOf(nanos[moment]);
    }

    public boolean isLeap(int moment) throws IndexOutOfBoundsException {
        checkMoment(moment);
        return isLeapYear(years[moment]);
    }

    public String field(int moment, int field) throws IndexOutOfBoundsException, IllegalArgumentException {
        checkMoment(moment);
        checkRange(field, 0, LAST_FIELD);
        if (field <= LAST_TIME_FIELD) {
            return digitsOf(timeField(nanos[moment], field));
        }
        return digitsOf(dateField(moment, field));
    }

    public int compare(int moment, int other) throws IndexOutOfBoundsException {
        checkMoment(moment);
        checkMoment(other);
        return order(moment, other);
    }

    public boolean isSame(int moment, int other) throws IndexOutOfBoundsException {
        checkMoment(moment);
        checkMoment(other);
        return isSameLine(moment, other);
    }

    public boolean isSameAs(int moment, int what) throws IndexOutOfBoundsException, IllegalArgumentException {
        checkMoment(moment);
        checkRange(what, 0, 4);
        switch (what) {
            case 3:
                return isItsDateAndTime(moment);
            case 4:
                return isItsParts(moment);
            default:
                return false;
        }
    }

    public String between(int moment, int other, int unit)
            throws IndexOutOfBoundsException, IllegalArgumentException {
        checkMoment(moment);
        checkMoment(other);
        checkRange(unit, UNIT_NANOS, LAST_UNIT);
        return gapText(moment, other, unit);
    }

    public String until(int moment, int other, int unit)
            throws IndexOutOfBoundsException, IllegalArgumentException {
        checkMoment(moment);
        checkMoment(other);
        checkRange(unit, UNIT_NANOS, LAST_UNIT);
        return gapText(moment, other, unit);
    }

    // ---- the whole

    public int house(int what) throws IllegalArgumentException {
        checkRange(what, 0, 5);
        return houseNumber(what);
    }

    public int knock() {
        knocks++;
        return knocks;
    }

    public boolean isSound() {
        for (int moment = 0; moment < MOMENTS; moment++) {
            if (!isSoundAlone(moment)) {
                return false;
            }
            for (int other = 0; other < moment; other++) {
                if (!isSoundPair(moment, other)) {
                    return false;
                }
            }
        }
        return true;
    }

    public long digest() {
        long sum = 7643L;
        for (int moment = 0; moment < MOMENTS; moment++) {
            sum = mixMoment(sum, moment);
        }
        for (int moment = 0; moment < MOMENTS; moment++) {
            for (int other = moment + 1; other < MOMENTS; other++) {
                sum = mix(sum, order(moment, other));
                sum = mix(sum, digitCount(gapInUnits(moment, other, UNIT_HOURS)));
            }
        }
        for (int what = 0; what <= 5; what++) {
            sum = mix(sum, houseNumber(what));
        }
        return mix(sum, isSound() ? 1L : 0L);
    }

    // ---- arguments

    private static void checkMoment(int moment) {
        if (moment < 0 || moment >= MOMENTS) {
            throw new IndexOutOfBoundsException("there is no such moment");
        }
    }

    private static void checkRange(int value, int least, int greatest) {
        if (value < least || value > greatest) {
            throw new IllegalArgumentException("a number is out of its range");
        }
    }

    // ---- changes

    private int refuse() {
        refusals++;
        return REFUSED;
    }

    private int becomeDate(int moment, int year, int month, int monthDay, long nano) {
        if (monthDay > monthLength(year, month)) {
            return refuse();
        }
        years[moment] = year;
        months[moment] = month;
        monthDays[moment] = monthDay;
        days[moment] = dayOf(year, month, monthDay);
        nanos[moment] = nano;
        changes++;
        return weekday(days[moment]);
    }

    private int becomeDay(int moment, long day, long nano) {
        if (day < FIRST_DAY || day > LAST_DAY) {
            return refuse();
        }
        int year = yearOf(day);
        int yearDay = (int) (day - firstDayOf(year)) + 1;
        int month = monthOf(year, yearDay);
        return becomeDate(moment, year, month, yearDay - daysAhead(year, month), nano);
    }

    private int becomeMonth(int moment, int year, int month) {
        int monthDay = Math.min(monthDays[moment], monthLength(year, month));
        return becomeDate(moment, year, month, monthDay, nanos[moment]);
    }

    private int becomeAs(int moment, int dated, long nano) {
        return becomeDate(moment, years[dated], months[dated], monthDays[dated], nano);
    }

    private int goMonths(int moment, long many) {
        long count = monthCount(moment) + many;
        long year = Math.floorDiv(count, 12L);
        if (year < FIRST_YEAR || year > LAST_YEAR) {
            return refuse();
        }
        return becomeMonth(moment, (int) year, (int) Math.floorMod(count, 12L) + 1);
    }

    /** By whole days and a rest: all of it in nanos might not fit into 64 bits. */
    private int goUnits(int moment, long many, int unit) {
        if (unit == UNIT_WEEKS) {
            return goLine(moment, 7L * many, 0L);
        }
        long size = nanosOfUnit(unit);
        long perDay = quotient(DAY_NANOS, size);
        long wholeDays = quotient(many, perDay);
        return goLine(moment, wholeDays, (many - wholeDays * perDay) * size);
    }

    private int goLine(int moment, long moreDays, long moreNanos) {
        long nano = nanos[moment] + moreNanos;
        long day = days[moment] + moreDays + Math.floorDiv(nano, DAY_NANOS);
        return becomeDay(moment, day, Math.floorMod(nano, DAY_NANOS));
    }

    // ---- dates

    private static boolean isLeapYear(int year) {
        return year % 4 == 0 && (year % 100 != 0 || year % 400 == 0);
    }

    private static int yearLength(int year) {
        return isLeapYear(year) ? 366 : 365;
    }

    private static int monthLength(int year, int month) {
        switch (month) {
            case 2:
                return isLeapYear(year) ? 29 : 28;
            case 4:
            case 6:
            case 9:
            case 11:
                return 30;
            default:
                return 31;
        }
    }

    private static int daysAhead(int year, int month) {
        if (month < 1 || month > DAYS_AHEAD.length) {
            return 0;
        }
        int ahead = DAYS_AHEAD[month - 1];
        return month > 2 && isLeapYear(year) ? ahead + 1 : ahead;
    }

    private static long firstDayOf(int year) {
        long leapDays = Math.floorDiv(year + 3, 4) - Math.floorDiv(year + 99, 100) + Math.floorDiv(year + 399, 400);
        return 365L * year + leapDays - DAYS_FROM_YEAR_0;
    }

    private static long dayOf(int year, int month, int monthDay) {
        return firstDayOf(year) + daysAhead(year, month) + monthDay - 1;
    }

    /** The middle length of a year leads to the right year or to one of its neighbours. */
    private static int yearOf(long day) {
        int year = (int) Math.floorDiv((day + DAYS_FROM_YEAR_0) * CYCLE_YEARS, CYCLE_DAYS);
        if (day < firstDayOf(year)) {
            return year - 1;
        }
        return day < firstDayOf(year + 1) ? year : year + 1;
    }

    private static int monthOf(int year, int yearDay) {
        for (int month = 12; month > 1; month--) {
            if (yearDay > daysAhead(year, month)) {
                return month;
            }
        }
        return 1;
    }

    private static int weekday(long day) {
        return (int) Math.floorMod(day + 3L, 7L) + 1;
    }

    private int yearDay(int moment) {
        return daysAhead(years[moment], months[moment]) + monthDays[moment];
    }

    private long monthCount(int moment) {
        return 12L * years[moment] + months[moment] - 1L;
    }

    // ---- times

    private long handTime(int how) {
        int parts = how == 6 ? 2 : how % 3;
        int second = parts >= 1 ? handSecond : 0;
        int nano = parts >= 2 ? handNano : 0;
        return timeOf(handHour, handMinute, second, nano);
    }

    private static long timeOf(int hour, int minute, int second, int nano) {
        return hour * HOUR_NANOS + minute * MINUTE_NANOS + second * SECOND_NANOS + nano;
    }

    private static int hourOf(long nano) {
        return (int) (nano / HOUR_NANOS);
    }

    private static int minuteOf(long nano) {
        return (int) (nano % HOUR_NANOS / MINUTE_NANOS);
    }

    private static int secondOf(long nano) {
        return (int) (nano % MINUTE_NANOS / SECOND_NANOS);
    }

    private static int nanoOfSecond(long nano) {
        return (int) (nano % SECOND_NANOS);
    }

    private static long cutNano(long nano, int unit) {
        long size = nanosOfUnit(unit);
        return quotient(nano, size) * size;
    }

    // ---- units

    private static long nanosOfUnit(int unit) {
        switch (unit) {
            case 0:
                return 1L;
            case 1:
                return 1000L;
            case 2:
                return 1000000L;
            case 3:
                return SECOND_NANOS;
            case 4:
                return MINUTE_NANOS;
            case 5:
                return HOUR_NANOS;
            case 6:
                return 12L * HOUR_NANOS;
            default:
                return DAY_NANOS;
        }
    }

    private static long monthsOfUnit(int unit) {
        switch (unit) {
            case UNIT_MONTHS:
                return 1L;
            case UNIT_YEARS:
                return 12L;
            case 11:
                return 120L;
            case 12:
                return 1200L;
            default:
                return 12000L;
        }
    }

    /** Towards 0; no unit has the size 0, but the divisor is looked at all the same. */
    private static long quotient(long value, long divisor) {
        return divisor == 0L ? 0L : value / divisor;
    }

    // ---- fields

    private static long timeField(long nano, int field) {
        int hour = hourOf(nano);
        switch (field) {
            case 0:
                return nanoOfSecond(nano);
            case 1:
                return nano;
            case 2:
                return nanoOfSecond(nano) / 1000;
            case 3:
                return nano / 1000L;
            case 4:
                return nanoOfSecond(nano) / 1000000;
            case 5:
                return nano / 1000000L;
            case 6:
                return secondOf(nano);
            case 7:
                return nano / SECOND_NANOS;
            case 8:
                return minuteOf(nano);
            case 9:
                return nano / MINUTE_NANOS;
            case 10:
                return hour % 12;
            case 11:
                return hour % 12 == 0 ? 12 : hour % 12;
            case 12:
                return hour;
            case 13:
                return hour == 0 ? 24 : hour;
            default:
                return hour < 12 ? 0 : 1;
        }
    }

    private long dateField(int moment, int field) {
        int year = years[moment];
        switch (field) {
            case 15:
                return weekday(days[moment]);
            case 16:
                return (monthDays[moment] - 1) % 7 + 1;
            case 17:
                return (yearDay(moment) - 1) % 7 + 1;
            case 18:
                return monthDays[moment];
            case 19:
                return yearDay(moment);
            case 20:
                return days[moment];
            case 21:
                return (monthDays[moment] - 1) / 7 + 1;
            case 22:
                return (yearDay(moment) - 1) / 7 + 1;
            case 23:
                return months[moment];
            case 24:
                return monthCount(moment);
            case 25:
                return year > 0 ? year : 1 - year;
            case 26:
                return year;
            default:
                return year > 0 ? 1 : 0;
        }
    }

    // ---- order and gaps

    private int order(int moment, int other) {
        if (days[moment] != days[other]) {
            return days[moment] < days[other] ? -1 : 1;
        }
        if (nanos[moment] != nanos[other]) {
            return nanos[moment] < nanos[other] ? -1 : 1;
        }
        return 0;
    }

    private boolean isSameLine(int moment, int other) {
        return days[moment] == days[other] && nanos[moment] == nanos[other];
    }

    private String gapText(int moment, int other, int unit) {
        if (isGapRefused(moment, other, unit)) {
            refuse();
            return REFUSED_TEXT;
        }
        if (unit < UNIT_MONTHS) {
            return digitsOf(gapInUnits(moment, other, unit));
        }
        return digitsOf(quotient(gapInMonths(moment, other), monthsOfUnit(unit)));
    }

    private boolean isGapRefused(int moment, int other, int unit) {
        if (unit == UNIT_NANOS) {
            return Math.abs(days[other] - days[moment]) > FARTHEST_FOR_NANOS;
        }
        return unit >= UNIT_MONTHS
                && (monthDays[moment] > SURE_DAY_OF_MONTH || monthDays[other] > SURE_DAY_OF_MONTH);
    }

    /** Days and nanos are given one sign first, so that both can be rounded towards 0 apart. */
    private long gapInUnits(int moment, int other, int unit) {
        long dayGap = days[other] - days[moment];
        long nanoGap = nanos[other] - nanos[moment];
        if (dayGap > 0L && nanoGap < 0L) {
            dayGap--;
            nanoGap += DAY_NANOS;
        } else if (dayGap < 0L && nanoGap > 0L) {
            dayGap++;
            nanoGap -= DAY_NANOS;
        }
        if (unit == UNIT_WEEKS) {
            return dayGap / 7L;
        }
        long size = nanosOfUnit(unit);
        return dayGap * quotient(DAY_NANOS, size) + quotient(nanoGap, size);
    }

    private long gapInMonths(int moment, int other) {
        if (order(other, moment) < 0) {
            return -wholeMonths(other, moment);
        }
        return wholeMonths(moment, other);
    }

    private long wholeMonths(int early, int late) {
        long count = monthCount(late) - monthCount(early);
        boolean isShort = monthDays[late] < monthDays[early]
                || monthDays[late] == monthDays[early] && nanos[late] < nanos[early];
        return isShort ? count - 1L : count;
    }

    // ---- texts

    private static String digitsOf(long value) {
        StringBuilder text = new StringBuilder();
        int count = value < 0L ? digitCount(value) - 1 : digitCount(value);
        long rest = value;
        for (int n = 0; n < count; n++) {
            text.append((char) ('0' + Math.abs(rest % 10L)));
            rest /= 10L;
        }
        if (value < 0L) {
            text.append('-');
        }
        return text.reverse().toString();
    }

    /** Also of the sign below 0. */
    private static int digitCount(long value) {
        int count = value < 0L ? 2 : 1;
        long rest = value / 10L;
        for (int n = 1; n < MOST_DIGITS && rest != 0L; n++) {
            count++;
            rest /= 10L;
        }
        return count;
    }

    // ---- the whole, in parts

    private int houseNumber(int what) {
        switch (what) {
            case 0:
                return changes;
            case 1:
                return refusals;
            case 2:
                return countRepeated();
            case 3:
                return outermost(-1);
            case 4:
                return outermost(1);
            default:
                return knocks;
        }
    }

    private int countRepeated() {
        int count = 0;
        for (int moment = 1; moment < MOMENTS; moment++) {
            if (isRepeated(moment)) {
                count++;
            }
        }
        return count;
    }

    private boolean isRepeated(int moment) {
        for (int other = 0; other < moment; other++) {
            if (isSameLine(moment, other)) {
                return true;
            }
        }
        return false;
    }

    private int outermost(int side) {
        int best = 0;
        for (int moment = 1; moment < MOMENTS; moment++) {
            if (order(moment, best) == side) {
                best = moment;
            }
        }
        return best;
    }

    private long mixMoment(long before, int moment) {
        long nano = nanos[moment];
        long sum = mix(before, years[moment]);
        sum = mix(sum, months[moment]);
        sum = mix(sum, monthDays[moment]);
        sum = mix(sum, yearDay(moment));
        sum = mix(sum, weekday(days[moment]));
        sum = mix(sum, hourOf(nano));
        sum = mix(sum, minuteOf(nano));
        sum = mix(sum, secondOf(nano));
        sum = mix(sum, nanoOfSecond(nano));
        return mix(sum, days[moment]);
    }

    private static long mix(long sum, long value) {
        return sum * 31L + value;
    }

    private boolean isSoundAlone(int moment) {
        return isItsParts(moment)
                && isItsDateAndTime(moment)
                && isBackFromNano(moment)
                && isBackFromDay(moment)
                && isBackFromCycle(moment)
                && isCutWell(nanos[moment]);
    }

    private boolean isItsParts(int moment) {
        long nano = nanos[moment];
        long time = timeOf(hourOf(nano), minuteOf(nano), secondOf(nano), nanoOfSecond(nano));
        return dayOf(years[moment], months[moment], monthDays[moment]) == days[moment] && time == nano;
    }

    private boolean isItsDateAndTime(int moment) {
        long nano = nanos[moment];
        long time = nano / SECOND_NANOS * SECOND_NANOS + nanoOfSecond(nano);
        return firstDayOf(years[moment]) + yearDay(moment) - 1 == days[moment] && time == nano;
    }

    private boolean isBackFromNano(int moment) {
        long more = nanos[moment] + 1L;
        long moreDay = days[moment] + Math.floorDiv(more, DAY_NANOS);
        if (moreDay > LAST_DAY) {
            return true;
        }
        return isLineLess(moment, moreDay, Math.floorMod(more, DAY_NANOS), 1L);
    }

    private boolean isBackFromDay(int moment) {
        if (days[moment] >= LAST_DAY) {
            return true;
        }
        return isLineLess(moment, days[moment] + 1L, nanos[moment], 24L * HOUR_NANOS);
    }

    private boolean isLineLess(int moment, long day, long nano, long less) {
        long lessNano = nano - less;
        return day + Math.floorDiv(lessNano, DAY_NANOS) == days[moment]
                && Math.floorMod(lessNano, DAY_NANOS) == nanos[moment];
    }

    private boolean isBackFromCycle(int moment) {
        int year = years[moment] + CYCLE_YEARS;
        if (year > LAST_YEAR) {
            return true;
        }
        int monthDay = Math.min(monthDays[moment], monthLength(year, months[moment]));
        return dayOf(year, months[moment], monthDay) - CYCLE_DAYS == days[moment];
    }

    private static boolean isCutWell(long nano) {
        for (int unit = UNIT_NANOS; unit <= UNIT_DAYS; unit++) {
            long cut = cutNano(nano, unit);
            if (cut > nano || cutNano(cut, unit) != cut) {
                return false;
            }
        }
        return true;
    }

    private boolean isSoundPair(int moment, int other) {
        int there = order(moment, other);
        int back = order(other, moment);
        return there == -back
                && isSameLine(moment, other) == (there == 0)
                && gapInUnits(moment, other, UNIT_DAYS) == -gapInUnits(other, moment, UNIT_DAYS);
    }
}
