/** Promises 1 to 7: how moments are made. */
public final class MadeTest {
    public static void main(String[] args) {
        newObject();
        hand();
        handOutermost();
        of();
        ofLastDays();
        ofRefused();
        ofHow();
        ofDay();
        ofDayRefused();
        copy();
        takeDate();
        takeTime();
        Checks.end("MadeTest");
    }

    // Promise 1: "at first all are the first day of the YEAR 2000 with the NANO 0"
    private static void newObject() {
        Daytimepair x = new Daytimepair();
        for (int moment = 0; moment < 6; moment++) {
            Checks.due("1 new", Checks.momentOf(x, moment), "2000-1-1 0:0:0.0");
            Checks.due("1 new day", x.day(moment), 10957);
            Checks.due("1 new day of the week", x.dayOfWeek(moment), 6);
            Checks.due("1 new day of the YEAR", x.dayOfYear(moment), 1);
            Checks.due("1 new NANO", x.nanoOfDay(moment), "0");
        }
        int[] house = {0, 0, 5, 0, 0, 0};
        for (int what = 0; what < house.length; what++) {
            Checks.due("1 new house " + what, x.house(what), house[what]);
        }
        Checks.due("1 new is sound", x.isSound(), true);
        Checks.due("1 new hand", Checks.handOf(x), "0:0:0.0");
        x.hand(1, 2, 3, 4);
        x.plusDays(0, 1);
        x.knock();
        Daytimepair another = new Daytimepair();
        Checks.due("1 two objects share nothing", Checks.momentOf(another, 0), "2000-1-1 0:0:0.0");
        Checks.due("1 two objects count apart", another.house(0) + another.house(5), 0);
        Checks.due("1 two objects have two hands", Checks.handOf(another), "0:0:0.0");
    }

    // Promise 2
    private static void hand() {
        Daytimepair x = new Daytimepair();
        Checks.due("2 first answers the hour 0", x.hand(5, 6, 7, 8), 0);
        Checks.due("2 second answers the first", x.hand(22, 33, 44, 55), 5);
        Checks.due("2 the same again", x.hand(22, 33, 44, 55), 22);
        Checks.due("2 parts", Checks.handOf(x), "22:33:44.55");
        Checks.due("2 making leaves it", x.hand(0, 0, 0, 0), 22);
        Checks.due("2 counts no change", x.house(0), 1);
        Checks.due("2 counts no REFUSED", x.house(1), 0);
    }

    private static void handOutermost() {
        int[][] hands = {{0, 0, 0, 0}, {23, 0, 0, 0}, {0, 59, 0, 0}, {0, 0, 59, 0}, {0, 0, 0, 999999999},
            {23, 59, 59, 999999999}};
        for (int[] h : hands) {
            Daytimepair x = new Daytimepair();
            x.hand(h[0], h[1], h[2], h[3]);
            String want = h[0] + ":" + h[1] + ":" + h[2] + "." + h[3];
            Checks.due("2 outermost", Checks.handOf(x), want);
            Checks.due("2 outermost, the hour", x.hand(1, 1, 1, 1), h[0]);
        }
        Daytimepair x = new Daytimepair();
        x.plusDays(1, 1);
        String before = Checks.momentOf(x, 0) + Checks.momentOf(x, 1);
        x.hand(1, 2, 3, 4);
        Checks.due("2 leaves the moments", Checks.momentOf(x, 0) + Checks.momentOf(x, 1), before);
    }

    private static void made(String what, int year, int month, int day) {
        Checks.dueMoved(what, "1999-12-31 23:59:59.1", (x, m) -> x.of(m, year, month, day, 2),
                year + "-" + month + "-" + day + " 21:43:5.76");
    }

    // Promise 3
    private static void of() {
        made("3 the DAY 0", 1970, 1, 1);
        made("3 the least of all", -9999, 1, 1);
        made("3 the greatest of all", 9999, 12, 31);
        made("3 least YEAR, greatest rest", -9999, 12, 31);
        made("3 greatest YEAR, least rest", 9999, 1, 1);
        made("3 the YEAR 0", 0, 1, 1);
        made("3 the YEAR -1", -1, 12, 31);
        made("3 as it was", 1999, 12, 31);
        for (int year : new int[] {-9996, -400, -4, 0, 4, 1600, 2000, 2024, 9996}) {
            made("3 leap day of " + year, year, 2, 29);
        }
    }

    private static void ofLastDays() {
        for (int month = 1; month <= 12; month++) {
            made("3 first day of the month " + month, 2023, month, 1);
            made("3 last day of the month " + month, 2023, month, Checks.LENGTHS[month - 1]);
        }
    }

    // "REFUSED if the month has not so many days"
    private static void ofRefused() {
        for (int month = 1; month <= 12; month++) {
            int m = month;
            for (int day = Checks.LENGTHS[month - 1] + 1; day <= 31; day++) {
                int d = day;
                for (int how = 0; how <= 6; how++) {
                    int h = how;
                    Checks.dueRefused("3 no day " + month + " " + day + " how " + how,
                            Checks.start(1, "2024-2-29 1:2:3.4"), x -> x.of(1, 2023, m, d, h), Checks.REFUSED);
                }
            }
        }
        for (int year : new int[] {-9999, -100, -1, 1, 1900, 2023, 2100, 9999}) {
            Checks.dueRefused("3 no leap day in " + year, "2024-2-29 1:2:3.4", (x, m) -> x.of(m, year, 2, 29, 2));
        }
        for (int year : new int[] {-400, 0, 2000, 2024}) {
            Checks.dueRefused("3 no 30 in " + year, "2024-2-29 1:2:3.4", (x, m) -> x.of(m, year, 2, 30, 6));
        }
    }

    // "how: 0 hour and minute of the HAND alone (the rest 0), 1 with the second, 2 with the nanos, too; .."
    private static void ofHow() {
        String[] times = {"21:43:0.0", "21:43:5.0", "21:43:5.76", "21:43:0.0", "21:43:5.0", "21:43:5.76",
            "21:43:5.76"};
        for (int how = 0; how < times.length; how++) {
            int h = how;
            Checks.dueMoved("3 how " + how, "1999-12-31 23:59:59.999999999", (x, m) -> x.of(m, 2024, 2, 29, h),
                    "2024-2-29 " + times[how]);
        }
    }

    private static void madeOfDay(String what, int day, String date) {
        Checks.dueMoved(what, "1999-12-31 23:59:59.1", (x, m) -> x.ofDay(m, day), date + " 21:43:5.76");
    }

    // Promise 4
    private static void ofDay() {
        madeOfDay("4 the DAY 0", 0, "1970-1-1");
        madeOfDay("4 the DAY -1", -1, "1969-12-31");
        madeOfDay("4 the DAY 1", 1, "1970-1-2");
        madeOfDay("4 least", -4371587, "-9999-1-1");
        madeOfDay("4 behind the least", -4371586, "-9999-1-2");
        madeOfDay("4 greatest", 2932896, "9999-12-31");
        madeOfDay("4 ahead of the greatest", 2932895, "9999-12-30");
        madeOfDay("4 the year 0", -719528, "0-1-1");
        madeOfDay("4 ahead of the year 0", -719529, "-1-12-31");
        madeOfDay("4 a leap day", 11016, "2000-2-29");
        madeOfDay("4 last day of a leap year", 11322, "2000-12-31");
    }

    // "REFUSED if its YEAR would be out of its range"
    private static void ofDayRefused() {
        for (int day : new int[] {2932897, 2932898, 10000000, -4371588, -4371589, -10000000}) {
            Checks.dueRefused("4 out, the DAY " + day, "2024-2-29 1:2:3.4", (x, m) -> x.ofDay(m, day));
        }
    }

    private interface Pair {
        Object on(Daytimepair x, int moment, int other);
    }

    /** Of each moment and each other one, also of a moment and itself. */
    private static void takes(String what, Pair pair, String want) {
        String own = "2024-2-29 1:2:3.4";
        String others = "-5-12-31 20:30:40.50";
        for (int m = 0; m < 6; m++) {
            for (int o = 0; o < 6; o++) {
                int moment = m;
                int other = o;
                Checks.Start start = () -> {
                    Daytimepair x = Checks.start(moment, own).make();
                    if (other != moment) {
                        x.hand(20, 30, 40, 50);
                        x.of(other, -5, 12, 31, 2);
                    }
                    return x;
                };
                Checks.dueMoved(what + " " + m + " " + o, start, x -> pair.on(x, moment, other), moment,
                        m == o ? own : want);
                Daytimepair x = start.make();
                pair.on(x, moment, other);
                Checks.due(what + ", the other one stays", Checks.momentOf(x, other), m == o ? own : others);
            }
        }
    }

    // Promise 5
    private static void copy() {
        takes("5 copy", Daytimepair::copy, "-5-12-31 20:30:40.50");
        Daytimepair x = new Daytimepair();
        x.copy(0, 1);
        x.plusDays(1, 1);
        x.plusHours(0, 1);
        Checks.due("5 apart afterwards", Checks.momentOf(x, 0), "2000-1-1 1:0:0.0");
        Checks.due("5 apart afterwards", Checks.momentOf(x, 1), "2000-1-2 0:0:0.0");
    }

    // Promise 6
    private static void takeDate() {
        takes("6 take", Daytimepair::takeDate, "-5-12-31 1:2:3.4");
    }

    // Promise 7
    private static void takeTime() {
        takes("7 take", Daytimepair::takeTime, "2024-2-29 20:30:40.50");
    }
}
