/** Promises 54 to 57: the whole. */
public final class WholeTest {
    public static void main(String[] args) {
        house();
        houseOrder();
        houseWrong();
        knock();
        isSound();
        digest();
        Checks.end("WholeTest");
    }

    // Promise 54
    private static void house() {
        Daytimepair x = new Daytimepair();
        x.hand(1, 1, 1, 1);
        Checks.due("54 hand is no change", x.house(0), 0);
        x.truncate(0, 0);
        x.copy(1, 1);
        x.plusDays(2, 0);
        Checks.due("54 changes that change nothing", x.house(0), 3);
        x.of(0, 2023, 2, 29, 0);
        x.plusYears(0, 9999);
        x.of(0, 2000, 1, 31, 0);
        x.between(0, 1, 9);
        x.until(0, 1, 13);
        Checks.due("54 changes", x.house(0), 4);
        Checks.due("54 refused", x.house(1), 4);
        Checks.due("54 knocks", x.house(5), 0);
        x.isSound();
        x.digest();
        Checks.due("54 asked changes nothing", x.house(0) * 10 + x.house(1), 44);
    }

    private static void houseOrder() {
        Daytimepair x = new Daytimepair();
        Checks.due("54 all same", x.house(2), 5);
        Checks.due("54 first of all same", x.house(3), 0);
        Checks.due("54 last of all same", x.house(4), 0);
        x.plusNanos(3, 0, 1);
        x.copy(5, 3);
        Checks.due("54 two kinds", x.house(2), 4);
        Checks.due("54 smallest number behind", x.house(4), 3);
        x.plusNanos(2, 0, -1);
        x.copy(4, 2);
        Checks.due("54 three kinds", x.house(2), 3);
        Checks.due("54 smallest number ahead", x.house(3), 2);
        for (int moment = 0; moment < 6; moment++) {
            x.ofDay(moment, 3);
        }
        for (int moment = 5; moment >= 0; moment--) {
            x.plusNanos(moment, 0, -6 + moment);
            Checks.due("54 ahead, the moment " + moment, x.house(3), moment);
        }
        for (int moment = 5; moment >= 0; moment--) {
            x.plusNanos(moment, 1, -moment);
            Checks.due("54 behind, the moment " + moment, x.house(4), moment);
        }
        for (int moment = 0; moment < 6; moment++) {
            x.ofDay(moment, -moment);
        }
        Checks.due("54 none same", x.house(2), 0);
        Checks.due("54 ahead", x.house(3), 5);
        Checks.due("54 behind", x.house(4), 0);
    }

    private static void houseWrong() {
        Daytimepair x = new Daytimepair();
        for (int what : new int[] {-1, 6, Integer.MIN_VALUE, Integer.MAX_VALUE}) {
            Checks.dueThrow("54 what " + what, x, Checks.NO_ARGUMENT, () -> x.house(what));
        }
    }

    // Promise 55
    private static void knock() {
        Daytimepair x = new Daytimepair();
        for (int times = 1; times <= 400; times++) {
            Checks.due("55 knock", x.knock(), times);
        }
        Checks.due("55 house", x.house(5), 400);
        Checks.due("55 changes nothing else", x.house(0) + x.house(1), 0);
    }

    // Promise 56
    private static void isSound() {
        Daytimepair x = new Daytimepair();
        Checks.due("56 new", x.isSound(), true);
        x.hand(23, 59, 59, 999999999);
        x.of(0, 9999, 12, 31, 2);
        x.of(1, -9999, 1, 1, 0);
        x.truncate(1, 7);
        x.of(2, 2000, 2, 29, 2);
        x.of(3, 9599, 12, 31, 2);
        x.of(4, 9600, 2, 29, 2);
        x.of(5, -4, 2, 29, 1);
        String before = Checks.stateOf(x);
        Checks.due("56 edges", x.isSound(), true);
        Checks.due("56 changes nothing", Checks.stateOf(x), before);
        for (int day = -4371587; day <= 2932896; day += 13331) {
            x.ofDay(day & 3, day);
            Checks.due("56 day " + day, x.isSound(), true);
        }
    }

    // Promise 57
    private static void digest() {
        Daytimepair x = new Daytimepair();
        Checks.due("57 new", x.digest(), digestOf(x));
        Checks.due("57 again", x.digest(), digestOf(x));
        x.hand(23, 59, 59, 999999999);
        x.of(0, 9999, 12, 31, 2);
        x.of(1, -9999, 1, 1, 1);
        x.of(2, 2000, 2, 30, 2);
        x.of(3, 1999, 12, 31, 2);
        x.of(4, 2024, 2, 29, 2);
        x.knock();
        x.between(0, 1, 0);
        Checks.due("57 later", x.digest(), digestOf(x));
        String before = Checks.stateOf(x);
        x.digest();
        Checks.due("57 changes nothing", Checks.stateOf(x), before);
    }

    private static long digestOf(Daytimepair x) {
        long d = 7643L;
        for (int m = 0; m < 6; m++) {
            int[] values = {x.year(m), x.month(m), x.dayOfMonth(m), x.dayOfYear(m), x.dayOfWeek(m), x.hour(m),
                x.minute(m), x.second(m), x.nano(m), x.day(m)};
            for (int value : values) {
                d = d * 31 + value;
            }
        }
        for (int one = 0; one < 6; one++) {
            for (int other = one + 1; other < 6; other++) {
                d = d * 31 + x.compare(one, other);
                d = d * 31 + x.between(one, other, 5).length();
            }
        }
        for (int what = 0; what <= 5; what++) {
            d = d * 31 + x.house(what);
        }
        return d * 31 + (x.isSound() ? 1 : 0);
    }
}
