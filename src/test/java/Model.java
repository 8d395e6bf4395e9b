import java.math.BigInteger;
import java.time.LocalDate;
import java.time.LocalDateTime;
import java.time.LocalTime;
import java.time.temporal.ChronoField;
import java.time.temporal.ChronoUnit;

/** What the document asks, told once more by means of the Java library's calendar. */
final class Model {
    private static final BigInteger DAY = BigInteger.valueOf(86400000000000L);

    private final LocalDateTime[] moments = new LocalDateTime[6];
    private LocalTime hand = LocalTime.MIDNIGHT;
    private int changes;
    private int refusals;
    private int knocks;

    Model() {
        for (int i = 0; i < 6; i++) {
            moments[i] = LocalDateTime.of(2000, 1, 1, 0, 0);
        }
    }

    String answer(String name, int[] a) {
        String exception = exceptionOf(name, a);
        if (exception != null) {
            return "throws." + exception;
        }
        if (name.startsWith("plus") || name.startsWith("minus")) {
            return become(a[0], gone(name, a));
        }
        if (name.startsWith("with")) {
            return become(a[0], with(name.substring(4), moments[a[0]], a[1]));
        }
        String made = madeAnswer(name, a);
        return made != null ? made : askedAnswer(name, a);
    }

    // ---- exceptions

    private static boolean isTwo(String name) {
        return "copy takeDate takeTime compare isSame between until".contains(name);
    }

    private static String exceptionOf(String name, int[] a) {
        boolean whole = "hand house knock isSound digest".contains(name);
        if (!whole && out(a[0], 0, 5) || isTwo(name) && out(a[1], 0, 5)) {
            return "IndexOutOfBoundsException";
        }
        return isWrong(name, a) ? "IllegalArgumentException" : null;
    }

    private static boolean isWrong(String name, int[] a) {
        switch (name) {
            case "hand":
                return out(a[0], 0, 23) || out(a[1], 0, 59) || out(a[2], 0, 59) || out(a[3], 0, 999999999);
            case "of":
                return out(a[1], -9999, 9999) || out(a[2], 1, 12) || out(a[3], 1, 31) || out(a[4], 0, 6);
            case "ofDay":
                return out(a[1], -10000000, 10000000);
            case "withYear":
                return out(a[1], -9999, 9999);
            case "withMonth":
                return out(a[1], 1, 12);
            case "withDayOfMonth":
                return out(a[1], 1, 31);
            case "withDayOfYear":
                return out(a[1], 1, 366);
            case "withHour":
                return out(a[1], 0, 23);
            case "withMinute":
            case "withSecond":
                return out(a[1], 0, 59);
            case "withNano":
                return out(a[1], 0, 999999999);
            case "truncate":
                return out(a[1], 0, 7);
            case "plusYears":
            case "minusYears":
                return out(a[1], -100000000, 100000000);
            case "plusUnits":
                return out(a[1], -100000, 100000) || out(a[2], 0, 13);
            case "field":
                return out(a[1], 0, 27);
            case "isSameAs":
                return out(a[1], 0, 4);
            case "between":
            case "until":
                return out(a[2], 0, 13);
            case "house":
                return out(a[0], 0, 5);
            default:
                return false;
        }
    }

    private static boolean out(int value, int least, int greatest) {
        return value < least || value > greatest;
    }

    // ---- changes

    private String become(int moment, LocalDateTime next) {
        if (next == null || out(next.getYear(), -9999, 9999)) {
            refusals++;
            return "-9";
        }
        moments[moment] = next;
        changes++;
        return String.valueOf(next.getDayOfWeek().getValue());
    }

    private LocalDateTime gone(String name, int[] a) {
        LocalDateTime from = moments[a[0]];
        long sign = name.startsWith("plus") ? 1 : -1;
        if (name.endsWith("Nanos")) {
            return from.plusNanos(sign * (a[1] * 1000000000L + a[2]));
        }
        // LocalDateTime.plus of Java 17 takes 256 half days for one day; the document counts them on the LINE.
        if (name.equals("plusUnits") && a[2] == 6) {
            return from.plusHours(12L * a[1]);
        }
        if (name.equals("plusUnits")) {
            return from.plus(a[1], ChronoUnit.values()[a[2]]);
        }
        String unit = name.substring(sign > 0 ? 4 : 5).toUpperCase();
        return from.plus(sign * a[1], ChronoUnit.valueOf(unit));
    }

    private static LocalDateTime with(String part, LocalDateTime from, int value) {
        switch (part) {
            case "Year":
                return from.withYear(value);
            case "Month":
                return from.withMonth(value);
            case "DayOfMonth":
                return value > from.toLocalDate().lengthOfMonth() ? null : from.withDayOfMonth(value);
            case "DayOfYear":
                return value > from.toLocalDate().lengthOfYear() ? null : from.withDayOfYear(value);
            case "Hour":
                return from.withHour(value);
            case "Minute":
                return from.withMinute(value);
            case "Second":
                return from.withSecond(value);
            default:
                return from.withNano(value);
        }
    }

    private String madeAnswer(String name, int[] a) {
        switch (name) {
            case "hand":
                int before = hand.getHour();
                hand = LocalTime.of(a[0], a[1], a[2], a[3]);
                return String.valueOf(before);
            case "of":
                return become(a[0], madeOf(a));
            case "ofDay":
                return become(a[0], LocalDate.ofEpochDay(a[1]).atTime(hand));
            case "copy":
                return become(a[0], moments[a[1]]);
            case "takeDate":
                return become(a[0], moments[a[1]].toLocalDate().atTime(moments[a[0]].toLocalTime()));
            case "takeTime":
                return become(a[0], moments[a[0]].toLocalDate().atTime(moments[a[1]].toLocalTime()));
            case "truncate":
                return become(a[0], moments[a[0]].truncatedTo(ChronoUnit.values()[a[1]]));
            case "knock":
                knocks++;
                return String.valueOf(knocks);
            default:
                return null;
        }
    }

    private LocalDateTime madeOf(int[] a) {
        if (a[3] > LocalDate.of(a[1], a[2], 1).lengthOfMonth()) {
            return null;
        }
        ChronoUnit[] cuts = {ChronoUnit.MINUTES, ChronoUnit.SECONDS, ChronoUnit.NANOS, ChronoUnit.MINUTES,
            ChronoUnit.SECONDS, ChronoUnit.NANOS, ChronoUnit.NANOS};
        return LocalDate.of(a[1], a[2], a[3]).atTime(hand.truncatedTo(cuts[a[4]]));
    }

    // ---- asked

    private String askedAnswer(String name, int[] a) {
        switch (name) {
            case "field":
                return String.valueOf(moments[a[0]].getLong(ChronoField.values()[a[1]]));
            case "compare":
                return String.valueOf(order(a[0], a[1]));
            case "isSame":
                return String.valueOf(moments[a[0]].equals(moments[a[1]]));
            case "isSameAs":
                return String.valueOf(a[1] >= 3);
            case "between":
            case "until":
                return gap(a[0], a[1], a[2]);
            case "house":
                return String.valueOf(house(a[0]));
            case "isSound":
                return "true";
            case "digest":
                return String.valueOf(digest());
            default:
                return partAnswer(name, moments[a[0]]);
        }
    }

    private static String partAnswer(String name, LocalDateTime of) {
        switch (name) {
            case "isLeap":
                return String.valueOf(of.toLocalDate().isLeapYear());
            case "lengthOfMonth":
                return String.valueOf(of.toLocalDate().lengthOfMonth());
            case "nanoOfDay":
                return String.valueOf(of.getLong(ChronoField.NANO_OF_DAY));
            default:
                return String.valueOf(part(name, of));
        }
    }

    private static long part(String name, LocalDateTime of) {
        switch (name) {
            case "year":
                return of.getYear();
            case "month":
                return of.getMonthValue();
            case "dayOfMonth":
                return of.getDayOfMonth();
            case "dayOfYear":
                return of.getDayOfYear();
            case "dayOfWeek":
                return of.getDayOfWeek().getValue();
            case "hour":
                return of.getHour();
            case "minute":
                return of.getMinute();
            case "second":
                return of.getSecond();
            case "nano":
                return of.getNano();
            case "day":
                return of.toLocalDate().toEpochDay();
            case "secondOfDay":
                return of.toLocalTime().toSecondOfDay();
            default:
                throw new IllegalStateException("the model has no answer to " + name);
        }
    }

    private int order(int moment, int other) {
        return Integer.signum(moments[moment].compareTo(moments[other]));
    }

    // ---- gaps

    private String gap(int moment, int other, int unit) {
        long days = moments[other].toLocalDate().toEpochDay() - moments[moment].toLocalDate().toEpochDay();
        boolean late = moments[moment].getDayOfMonth() > 28 || moments[other].getDayOfMonth() > 28;
        if (unit == 0 && Math.abs(days) > 100000 || unit >= 9 && late) {
            refusals++;
            return "!";
        }
        if (unit <= 8) {
            BigInteger size = BigInteger.valueOf(ChronoUnit.values()[unit].getDuration().toSeconds())
                    .multiply(BigInteger.valueOf(1000000000))
                    .add(BigInteger.valueOf(ChronoUnit.values()[unit].getDuration().getNano()));
            return line(other).subtract(line(moment)).divide(size).toString();
        }
        long[] months = {1, 12, 120, 1200, 12000};
        return String.valueOf(monthGap(moment, other) / months[unit - 9]);
    }

    private BigInteger line(int moment) {
        return BigInteger.valueOf(moments[moment].toLocalDate().toEpochDay()).multiply(DAY)
                .add(BigInteger.valueOf(moments[moment].getLong(ChronoField.NANO_OF_DAY)));
    }

    /** By the words: the greatest number of months that does not go past. */
    private long monthGap(int moment, int other) {
        if (order(other, moment) < 0) {
            return -monthGap(other, moment);
        }
        long many = Math.max(0, moments[other].getLong(ChronoField.PROLEPTIC_MONTH)
                - moments[moment].getLong(ChronoField.PROLEPTIC_MONTH) - 3);
        while (!moments[moment].plusMonths(many + 1).isAfter(moments[other])) {
            many++;
        }
        return many;
    }

    // ---- the whole

    int house(int what) {
        switch (what) {
            case 0:
                return changes;
            case 1:
                return refusals;
            case 2:
                return 6 - (int) java.util.Arrays.stream(moments).distinct().count();
            case 3:
                return placeOf(java.util.Collections.min(java.util.Arrays.<LocalDateTime>asList(moments)));
            case 4:
                return placeOf(java.util.Collections.max(java.util.Arrays.<LocalDateTime>asList(moments)));
            default:
                return knocks;
        }
    }

    private int placeOf(LocalDateTime moment) {
        return java.util.Arrays.asList(moments).indexOf(moment);
    }

    private long digest() {
        long d = 7643L;
        String[] parts = {"year", "month", "dayOfMonth", "dayOfYear", "dayOfWeek", "hour", "minute", "second", "nano",
            "day"};
        for (LocalDateTime moment : moments) {
            for (String name : parts) {
                d = d * 31 + part(name, moment);
            }
        }
        for (int one = 0; one < 6; one++) {
            for (int other = one + 1; other < 6; other++) {
                d = d * 31 + order(one, other);
                d = d * 31 + gap(one, other, 5).length();
            }
        }
        for (int what = 0; what <= 5; what++) {
            d = d * 31 + house(what);
        }
        return d * 31 + 1;
    }
}
