import java.util.Arrays;
import java.util.function.IntSupplier;

/** Promises 18 to 22 and what Terms II tells of MONTHS, of YEAR, of TWO SIZES and of WORTH: the edges. */
public final class EdgeMonthsTest {
    private static final int ALL = 4095;

    private static RingAndFinger of(String text, int... heats) {
        return Edges.rows(Edges.of(text), heats);
    }

    private static RingAndFinger even(String text, int heat) {
        int[] heats = new int[12];
        Arrays.fill(heats, heat);
        return of(text, heats);
    }

    /** A plain PART of 180: in six MONTHS of HEAT 0 it is 171, in six of HEAT 9 it is 198. */
    private static RingAndFinger yearly() {
        return of("pp180;", 0, 0, 0, 0, 0, 0, 9, 9, 9, 9, 9, 9);
    }

    private static RingAndFinger without(int numbers) {
        RingAndFinger x = Edges.of("pp180;");
        for (int i = 0; i < numbers; i++) {
            x.row(3);
        }
        return x;
    }

    // Promise 18 "MONTHS it STICKS"; Terms II "is more than SIZE and 4": 171 is not at 167 and is at 166; 198 likewise.
    private static void promise18MoreThanSizeAndFour() {
        Edges.asks("sticks(167), HEAT 0", () -> even("pp180;", 0), x -> x.sticks(167), 0);
        Edges.asks("sticks(166), HEAT 0", () -> even("pp180;", 0), x -> x.sticks(166), ALL);
        Edges.asks("sticks(194), HEAT 9", () -> even("pp180;", 9), x -> x.sticks(194), 0);
        Edges.asks("sticks(193), HEAT 9", () -> even("pp180;", 9), x -> x.sticks(193), ALL);
        Edges.asks("sticks(167)", EdgeMonthsTest::yearly, x -> x.sticks(167), 0xfc0);
        Edges.asks("sticks(166)", EdgeMonthsTest::yearly, x -> x.sticks(166), ALL);
    }

    // Promise 19 "MONTHS it FALLS"; Terms II "are less than SIZE less 9": 171 is not at 180 and is at 181; 198 likewise.
    private static void promise19LessThanSizeLessNine() {
        Edges.asks("falls(180), HEAT 0", () -> even("pp180;", 0), x -> x.falls(180), 0);
        Edges.asks("falls(181), HEAT 0", () -> even("pp180;", 0), x -> x.falls(181), ALL);
        Edges.asks("falls(207), HEAT 9", () -> even("pp180;", 9), x -> x.falls(207), 0);
        Edges.asks("falls(208), HEAT 9", () -> even("pp180;", 9), x -> x.falls(208), ALL);
        Edges.asks("falls(207)", EdgeMonthsTest::yearly, x -> x.falls(207), 0x03f);
        Edges.asks("falls(208)", EdgeMonthsTest::yearly, x -> x.falls(208), ALL);
    }

    // Promises 18, 19 "(bits", Terms II "MONTHS 0 .. 11": each of them by itself.
    private static void promise18And19EachMonth() {
        for (int month = 0; month < 12; month++) {
            int m = month;
            int[] heats = new int[12];
            heats[m] = 9;
            Edges.asks("sticks(190), warm " + m, () -> of("pp180;", heats), x -> x.sticks(190), 1 << m);
            Edges.asks("falls(190), warm " + m, () -> of("pp180;", heats), x -> x.falls(190), ALL - (1 << m));
        }
    }

    // Terms II "if some PART .. ; FALLS, if all": one of several is enough to stick, and to keep it from falling.
    private static void terms2SomeAndAll() {
        String[] fingers = {"pp200;pp100;pp100;", "pp100;pp200;pp100;", "pp100;pp100;pp200;"};
        for (String f : fingers) {
            // The thickest is 191, 200 and 18 more in warm months; the others 91.
            Edges.asks("sticks(186) of " + f, () -> even(f, 0), x -> x.sticks(186), ALL);
            Edges.asks("sticks(187) of " + f, () -> even(f, 0), x -> x.sticks(187), 0);
            Edges.asks("falls(200) of " + f, () -> even(f, 0), x -> x.falls(200), 0);
            Edges.asks("falls(201) of " + f, () -> even(f, 0), x -> x.falls(201), ALL);
        }
        Edges.asks("sticks(186), the thick one passed", () -> even("pp200;pp100;r2509;t0;", 0), x -> x.sticks(186), ALL);
        Edges.asks("sticks(186), OFF", () -> even("pp200;r2509;t0;", 0), x -> x.sticks(186), ALL);
    }

    // Terms II "if some PART", "if all": without PARTS none is more, and all are less.
    private static void terms2WithoutParts() {
        Edges.asks("sticks(100) without PARTS", () -> even("h3;", 9), x -> x.sticks(100), 0);
        Edges.asks("falls(100) without PARTS", () -> even("h3;", 9), x -> x.falls(100), ALL);
        Edges.asks("year(5, 7, 0) without PARTS", () -> even("h3;", 9), x -> x.year(5, 7, 0), 100);
        Edges.asks("year(5, 7, 1) without PARTS", () -> even("h3;", 9), x -> x.year(5, 7, 1), 84);
    }

    // Terms II "with SWELL twice HEAT, COLD 9 less HEAT, that HEAT": from HEAT 0 to 9, of each KIND, whatever is NOW.
    private static void terms2AsTheMonthIs() {
        int[] plain = {91, 94, 97, 100, 103, 106, 109, 112, 115, 118};
        int[] knuckle = {98, 99, 101, 102, 103, 104, 106, 107, 108, 109};
        for (int heat = 0; heat <= 9; heat++) {
            int roll = plain[heat] + 2 * heat + (heat >= 5 ? 3 : 0);
            int[] thick = {plain[heat], knuckle[heat], plain[heat] + 2 * heat, roll, knuckle[heat] + heat,
                knuckle[heat] + heat - 10};
            for (int kind = 0; kind < 6; kind++) {
                RingAndFinger x = even("p" + "pksrjt".charAt(kind) + "150;s30;c20;h" + (9 - heat) + ";", heat);
                int t = thick[kind] + 50;
                Edges.due("sticks, KIND " + kind + ", HEAT " + heat, x.sticks(t - 5), ALL);
                Edges.due("sticks, KIND " + kind + ", HEAT " + heat, x.sticks(t - 4), 0);
                Edges.due("falls, KIND " + kind + ", HEAT " + heat, x.falls(t + 9), 0);
                Edges.due("falls, KIND " + kind + ", HEAT " + heat, x.falls(t + 10), ALL);
            }
        }
    }

    // Terms II "some PART", "all": the PARTS that there are now, more by a hand and fewer by THE IMAGE.
    private static void terms2PartsThatAreNow() {
        RingAndFinger x = even("pp180;", 0);
        x.image();
        Edges.tell(x, "pp190;");
        Edges.due("sticks(176), a PART more", x.sticks(176), ALL);
        x.on();
        Edges.due("sticks(176), as then", x.sticks(176), 0);
        Edges.tell(x, "pp190;");
        Edges.due("falls(181), a PART more", x.falls(181), 0);
        x.on();
        Edges.due("falls(181), as then", x.falls(181), ALL);
        Edges.tell(x, "pp190;");
        Edges.due("year(1, 1, 0), a PART more", x.year(1, 1, 0), 177);
        x.on();
        Edges.due("year(1, 1, 0), as then", x.year(1, 1, 0), 167);
        Edges.tell(x, "pp190;");
        Edges.due("two(0, 6, 1, 1, 0), a PART more", x.two(0, 6, 1, 1, 0), 177);
        x.on();
        Edges.due("two(0, 6, 1, 1, 0), as then", x.two(0, 6, 1, 1, 0), 167);
    }

    // Terms II "a ring of a SIZE": the SIZE that there is does not tell.
    private static void terms2AnySize() {
        RingAndFinger x = yearly();
        x.set(0, 100);
        Edges.due("sticks(167)", x.sticks(167), 0xfc0);
        x.set(0, 250);
        Edges.due("sticks(167)", x.sticks(167), 0xfc0);
    }

    // Promise 18 "-4 below 100; -6 250": 100 and 250 are taken, 99 and 251 not, nor what is far away.
    private static void promise18SizeRange() {
        Edges.asks("sticks(100)", EdgeMonthsTest::yearly, x -> x.sticks(100), ALL);
        Edges.asks("sticks(250)", EdgeMonthsTest::yearly, x -> x.sticks(250), 0);
        Edges.refusedAnywhere("sticks(99)", x -> x.sticks(99), -4);
        Edges.refusedAnywhere("sticks(251)", x -> x.sticks(251), -6);
        Edges.refusedFar("sticks", RingAndFinger::sticks, -4, -6);
    }

    // Promise 19 "likewise": the same range.
    private static void promise19SizeRange() {
        Edges.asks("falls(100)", EdgeMonthsTest::yearly, x -> x.falls(100), 0);
        Edges.asks("falls(250)", EdgeMonthsTest::yearly, x -> x.falls(250), ALL);
        Edges.refusedAnywhere("falls(99)", x -> x.falls(99), -4);
        Edges.refusedAnywhere("falls(251)", x -> x.falls(251), -6);
        Edges.refusedFar("falls", RingAndFinger::falls, -4, -6);
    }

    // Promises 18 to 22 "-3 the ROW has not 12": with 0 .. 11 numbers; with 12 it has.
    private static void promise18To22RowHasNotTwelve() {
        for (int numbers = 0; numbers < 12; numbers++) {
            int n = numbers;
            Edges.refused("sticks(100), ROW of " + n, () -> without(n), x -> x.sticks(100), -3);
            Edges.refused("falls(250), ROW of " + n, () -> without(n), x -> x.falls(250), -3);
            Edges.refused("year(0, 99, 1), ROW of " + n, () -> without(n), x -> x.year(0, 99, 1), -3);
            Edges.refused("two(0, 12, 99, 0, 2), ROW of " + n, () -> without(n), x -> x.two(0, 12, 99, 0, 2), -3);
            Edges.refused("worth(0, 12, 99, 0), ROW of " + n, () -> without(n), x -> x.worth(0, 12, 99, 0), 1000000003);
        }
        Edges.asks("sticks(100), ROW of 12", () -> without(12), x -> x.sticks(100), ALL);
        Edges.asks("worth(0, 0, 0, 0), ROW of 12", () -> without(12), x -> x.worth(0, 0, 0, 0), 0);
    }

    // Promises 18, 19 "-4 ..; -6 ..; -3": in this order; and "one above 9": none comes into the ROW.
    private static void promise18And19Order() {
        Edges.refused("sticks(99), ROW of 11", () -> without(11), x -> x.sticks(99), -4);
        Edges.refused("sticks(251), ROW of 11", () -> without(11), x -> x.sticks(251), -6);
        Edges.refused("falls(99), ROW of 11", () -> without(11), x -> x.falls(99), -4);
        Edges.refused("falls(251), ROW of 11", () -> without(11), x -> x.falls(251), -6);
        RingAndFinger x = without(11);
        x.row(10);
        Edges.due("sticks(100) behind row(10)", x.sticks(100), -3);
    }

    // Promise 20 "YEAR: the SIZE (what 0), that (1)"; Terms II "of several the least": where the price of either turns.
    private static void promise20Year() {
        Edges.asks("year(1, 1, 0)", EdgeMonthsTest::yearly, x -> x.year(1, 1, 0), 167);
        Edges.asks("year(1, 1, 1)", EdgeMonthsTest::yearly, x -> x.year(1, 1, 1), 6);
        Edges.asks("year(2, 1, 0)", EdgeMonthsTest::yearly, x -> x.year(2, 1, 0), 194);
        Edges.asks("year(2, 1, 1)", EdgeMonthsTest::yearly, x -> x.year(2, 1, 1), 6);
        Edges.asks("year(1, 2, 0)", EdgeMonthsTest::yearly, x -> x.year(1, 2, 0), 167);
        Edges.asks("year(99, 98, 0)", EdgeMonthsTest::yearly, x -> x.year(99, 98, 0), 194);
        Edges.asks("year(99, 98, 1)", EdgeMonthsTest::yearly, x -> x.year(99, 98, 1), 588);
        Edges.asks("year(98, 99, 0)", EdgeMonthsTest::yearly, x -> x.year(98, 99, 0), 167);
    }

    // Terms II "the SIZE (100 .. 250)": 100 itself, the next, 250 itself, and where not even 250 is enough.
    private static void terms2YearRange() {
        Edges.asks("104 warm", () -> even("pp086;", 9), x -> x.year(1, 0, 0), 100);
        Edges.asks("105 warm", () -> even("pp087;", 9), x -> x.year(1, 0, 0), 101);
        Edges.asks("253 warm", () -> even("pp235;", 9), x -> x.year(1, 0, 0), 249);
        Edges.asks("254 warm", () -> even("pp236;", 9), x -> x.year(1, 0, 0), 250);
        Edges.asks("254 warm, that", () -> even("pp236;", 9), x -> x.year(1, 0, 1), 0);
        Edges.asks("255 warm", () -> even("pp237;", 9), x -> x.year(1, 0, 0), 100);
        Edges.asks("255 warm, that", () -> even("pp237;", 9), x -> x.year(1, 0, 1), 12);
        Edges.asks("91 warm", () -> even("pp073;", 9), x -> x.year(0, 1, 1), 0);
        Edges.asks("90 warm", () -> even("pp072;", 9), x -> x.year(0, 1, 1), 12);
        Edges.asks("90 warm", () -> even("pp072;", 9), x -> x.year(0, 1, 0), 100);
    }

    // Promise 20 "a, b 0 .. 99": at 0 and at 99; one more or less is refused, and what is far away.
    private static void promise20Prices() {
        Edges.asks("year(0, 0, 0)", EdgeMonthsTest::yearly, x -> x.year(0, 0, 0), 100);
        Edges.asks("year(0, 0, 1)", EdgeMonthsTest::yearly, x -> x.year(0, 0, 1), 0);
        Edges.asks("year(99, 99, 1)", EdgeMonthsTest::yearly, x -> x.year(99, 99, 1), 594);
        Edges.asks("year(99, 0, 0)", EdgeMonthsTest::yearly, x -> x.year(99, 0, 0), 194);
        Edges.asks("year(0, 99, 0)", EdgeMonthsTest::yearly, x -> x.year(0, 99, 0), 100);
        Edges.refusedAnywhere("year(100, 0, 0)", x -> x.year(100, 0, 0), -6);
        Edges.refusedAnywhere("year(0, 100, 0)", x -> x.year(0, 100, 0), -6);
        for (int far : Edges.FAR_BELOW) {
            Edges.refused("year(" + far + ", 0, 0)", EdgeMonthsTest::yearly, x -> x.year(far, 0, 0), -4);
            Edges.refused("year(0, " + far + ", 0)", EdgeMonthsTest::yearly, x -> x.year(0, far, 0), -4);
            Edges.refused("year(0, 0, " + far + ")", EdgeMonthsTest::yearly, x -> x.year(0, 0, far), -2);
        }
        for (int far : Edges.FAR_ABOVE) {
            Edges.refused("year(" + far + ", 0, 0)", EdgeMonthsTest::yearly, x -> x.year(far, 0, 0), -6);
            Edges.refused("year(0, " + far + ", 0)", EdgeMonthsTest::yearly, x -> x.year(0, far, 0), -6);
            Edges.refused("year(0, 0, " + far + ")", EdgeMonthsTest::yearly, x -> x.year(0, 0, far), -2);
        }
    }

    private static void refusalOr(String call, IntSupplier ask, long refusal) {
        int got = ask.getAsInt();
        Edges.due(call, got < 0 || got >= 1000000000 ? got : 0, refusal);
    }

    // Promise 20 "-4; -6; -2; -3 likewise": in this order, of all that there may be of a, b, what and the ROW.
    private static void promise20Order() {
        int[] prices = {Integer.MIN_VALUE, -1, 0, 99, 100, Integer.MAX_VALUE};
        for (int a : prices) {
            for (int b : prices) {
                RingAndFinger with = yearly();
                RingAndFinger without = without(11);
                for (int what = -1; what <= 2; what++) {
                    int w = what;
                    int due = Math.min(a, b) < 0 ? -4 : Math.max(a, b) > 99 ? -6 : w < 0 || w > 1 ? -2 : 0;
                    String call = "year(" + a + ", " + b + ", " + w + ")";
                    refusalOr(call, () -> with.year(a, b, w), due);
                    refusalOr(call + ", no ROW", () -> without.year(a, b, w), due == 0 ? -3 : due);
                }
            }
        }
    }

    // Promise 21 "the one in MONTHS from .. to less 1": from the first, up to the last, one alone.
    private static void promise21FromTo() {
        int[][] spans = {{0, 6, 167, 194, 0}, {6, 12, 194, 167, 0}, {0, 1, 167, 194, 5}, {11, 12, 194, 194, 6},
            {5, 6, 167, 194, 5}, {6, 7, 194, 194, 6}, {0, 7, 167, 194, 2}, {0, 5, 167, 194, 1}};
        for (int[] s : spans) {
            for (int what = 0; what < 3; what++) {
                int w = what;
                Edges.asks("two(" + s[0] + ", " + s[1] + ", 2, 1, " + w + ")", EdgeMonthsTest::yearly,
                    x -> x.two(s[0], s[1], 2, 1, w), s[2 + w]);
            }
        }
    }

    /** The best of n cold MONTHS and m warm ones: 167 sticks in the warm ones for 2, 194 falls in the cold ones for 1. */
    private static int best(int n, int m) {
        return n + m == 0 ? 100 : 2 * m <= n ? 167 : 194;
    }

    private static int price(int n, int m) {
        return Math.min(n, 2 * m);
    }

    private static int cold(int from, int to) {
        return Math.max(0, Math.min(6, to) - from);
    }

    private static int one(int from, int to) {
        return best(cold(from, to), to - from - cold(from, to));
    }

    private static int other(int from, int to) {
        int n = cold(from, to);
        return best(6 - n, 6 - (to - from - n));
    }

    private static int both(int from, int to) {
        int n = cold(from, to);
        int m = to - from - n;
        return price(n, m) + price(6 - n, 6 - m);
    }

    // Promise 21 "(from, to 0 .. 12, from no more than to)": each of them, all three answers.
    private static void promise21EachSpan() {
        for (int from = 0; from <= 12; from++) {
            for (int to = from; to <= 12; to++) {
                RingAndFinger x = yearly();
                String call = "two(" + from + ", " + to + ", 2, 1, ";
                Edges.due(call + "0)", x.two(from, to, 2, 1, 0), one(from, to));
                Edges.due(call + "1)", x.two(from, to, 2, 1, 1), other(from, to));
                Edges.due(call + "2)", x.two(from, to, 2, 1, 2), both(from, to));
                Edges.due("worth(" + from + ", " + to + ", 2, 1)", x.worth(from, to, 2, 1), 6 - both(from, to));
            }
        }
    }

    // Promise 21 "100 for no MONTHS": the one, where from is to; the other, where it is all of them.
    private static void promise21NoMonths() {
        for (int at = 0; at <= 12; at++) {
            int t = at;
            Edges.asks("two(" + t + ", " + t + ", 2, 1, 0)", EdgeMonthsTest::yearly, x -> x.two(t, t, 2, 1, 0), 100);
            Edges.asks("two(" + t + ", " + t + ", 2, 1, 1)", EdgeMonthsTest::yearly, x -> x.two(t, t, 2, 1, 1), 194);
            Edges.asks("two(" + t + ", " + t + ", 2, 1, 2)", EdgeMonthsTest::yearly, x -> x.two(t, t, 2, 1, 2), 6);
        }
        Edges.asks("two(0, 12, 2, 1, 0)", EdgeMonthsTest::yearly, x -> x.two(0, 12, 2, 1, 0), 194);
        Edges.asks("two(0, 12, 2, 1, 1)", EdgeMonthsTest::yearly, x -> x.two(0, 12, 2, 1, 1), 100);
        Edges.asks("two(0, 12, 2, 1, 2)", EdgeMonthsTest::yearly, x -> x.two(0, 12, 2, 1, 2), 6);
    }

    // Promise 21 "of several the least each": no price at all makes both 100.
    private static void promise21TheLeastEach() {
        for (int what = 0; what < 3; what++) {
            int w = what;
            Edges.asks("two(3, 9, 0, 0, " + w + ")", EdgeMonthsTest::yearly, x -> x.two(3, 9, 0, 0, w), w < 2 ? 100 : 0);
        }
        Edges.asks("two(0, 6, 0, 9, 0)", EdgeMonthsTest::yearly, x -> x.two(0, 6, 0, 9, 0), 100);
        Edges.asks("two(0, 6, 99, 99, 0)", EdgeMonthsTest::yearly, x -> x.two(0, 6, 99, 99, 0), 167);
        Edges.asks("two(0, 6, 99, 99, 1)", EdgeMonthsTest::yearly, x -> x.two(0, 6, 99, 99, 1), 194);
        Edges.asks("two(3, 9, 99, 99, 2)", EdgeMonthsTest::yearly, x -> x.two(3, 9, 99, 99, 2), 594);
    }

    // Promise 21 "-4 any; -6 (12, from above to; 99); -2": the first that is refused of each, and what is far away.
    private static void promise21Refused() {
        Edges.refusedAnywhere("two(-1, 0, 0, 0, 0)", x -> x.two(-1, 0, 0, 0, 0), -4);
        Edges.refusedAnywhere("two(0, 13, 0, 0, 0)", x -> x.two(0, 13, 0, 0, 0), -6);
        Edges.refusedAnywhere("two(13, 13, 0, 0, 0)", x -> x.two(13, 13, 0, 0, 0), -6);
        Edges.refusedAnywhere("two(1, 0, 0, 0, 0)", x -> x.two(1, 0, 0, 0, 0), -6);
        Edges.refusedAnywhere("two(12, 11, 0, 0, 0)", x -> x.two(12, 11, 0, 0, 0), -6);
        Edges.refusedAnywhere("two(0, 0, 100, 0, 0)", x -> x.two(0, 0, 100, 0, 0), -6);
        Edges.refusedAnywhere("two(0, 0, 0, 100, 0)", x -> x.two(0, 0, 0, 100, 0), -6);
        Edges.refusedAnywhere("two(0, 0, 0, 0, 3)", x -> x.two(0, 0, 0, 0, 3), -2);
        for (int far : Edges.FAR_BELOW) {
            Edges.refused("two(" + far + ", 0, 0, 0, 0)", EdgeMonthsTest::yearly, x -> x.two(far, 0, 0, 0, 0), -4);
            Edges.refused("two(0, " + far + ", 0, 0, 0)", EdgeMonthsTest::yearly, x -> x.two(0, far, 0, 0, 0), -4);
            Edges.refused("two(0, 0, " + far + ", 0, 0)", EdgeMonthsTest::yearly, x -> x.two(0, 0, far, 0, 0), -4);
            Edges.refused("two(0, 0, 0, " + far + ", 0)", EdgeMonthsTest::yearly, x -> x.two(0, 0, 0, far, 0), -4);
            Edges.refused("two(0, 0, 0, 0, " + far + ")", EdgeMonthsTest::yearly, x -> x.two(0, 0, 0, 0, far), -2);
        }
        for (int far : Edges.FAR_ABOVE) {
            Edges.refused("two(" + far + ", 12, 0, 0, 0)", EdgeMonthsTest::yearly, x -> x.two(far, 12, 0, 0, 0), -6);
            Edges.refused("two(" + far + ", same)", EdgeMonthsTest::yearly, x -> x.two(far, far, 0, 0, 0), -6);
            Edges.refused("two(0, " + far + ", 0, 0, 0)", EdgeMonthsTest::yearly, x -> x.two(0, far, 0, 0, 0), -6);
            Edges.refused("two(0, 0, " + far + ", 0, 0)", EdgeMonthsTest::yearly, x -> x.two(0, 0, far, 0, 0), -6);
            Edges.refused("two(0, 0, 0, " + far + ", 0)", EdgeMonthsTest::yearly, x -> x.two(0, 0, 0, far, 0), -6);
            Edges.refused("two(0, 0, 0, 0, " + far + ")", EdgeMonthsTest::yearly, x -> x.two(0, 0, 0, 0, far), -2);
        }
    }

    private static int spanRefusal(int from, int to, int a, int b) {
        if (Math.min(Math.min(from, to), Math.min(a, b)) < 0) {
            return -4;
        }
        return from > 12 || to > 12 || from > to || Math.max(a, b) > 99 ? -6 : 0;
    }

    // Promises 21, 22 "-4 any; -6 ..; -2; -3 likewise", "Refused as told": in this order, of all that there may be.
    private static void promise21And22Order() {
        int[] months = {Integer.MIN_VALUE, -1, 0, 5, 12, 13, Integer.MAX_VALUE};
        int[] prices = {Integer.MIN_VALUE, -1, 0, 99, 100, Integer.MAX_VALUE};
        for (int from : months) {
            for (int to : months) {
                for (int a : prices) {
                    for (int b : prices) {
                        orderOfOne(from, to, a, b);
                    }
                }
            }
        }
    }

    private static void orderOfOne(int from, int to, int a, int b) {
        RingAndFinger with = yearly();
        RingAndFinger without = without(11);
        int span = spanRefusal(from, to, a, b);
        String told = "(" + from + ", " + to + ", " + a + ", " + b;
        for (int what = -1; what <= 3; what++) {
            int w = what;
            int due = span != 0 ? span : w < 0 || w > 2 ? -2 : 0;
            refusalOr("two" + told + ", " + w + ")", () -> with.two(from, to, a, b, w), due);
            refusalOr("two" + told + ", " + w + "), no ROW", () -> without.two(from, to, a, b, w), due == 0 ? -3 : due);
        }
        refusalOr("worth" + told + ")", () -> with.worth(from, to, a, b), span == 0 ? 0 : 1000000000 - span);
        refusalOr("worth" + told + "), no ROW", () -> without.worth(from, to, a, b), 1000000000 - (span == 0 ? -3 : span));
    }

    // Promise 22 "WORTH"; Terms II "by how much less than YEAR's": nothing for no MONTHS or all, never below 0.
    private static void promise22Worth() {
        Edges.asks("worth(0, 6, 1, 1)", EdgeMonthsTest::yearly, x -> x.worth(0, 6, 1, 1), 6);
        Edges.asks("worth(0, 6, 99, 99)", EdgeMonthsTest::yearly, x -> x.worth(0, 6, 99, 99), 594);
        Edges.asks("worth(0, 6, 0, 99)", EdgeMonthsTest::yearly, x -> x.worth(0, 6, 0, 99), 0);
        Edges.asks("worth(0, 6, 99, 0)", EdgeMonthsTest::yearly, x -> x.worth(0, 6, 99, 0), 0);
        Edges.asks("worth(0, 0, 99, 99)", EdgeMonthsTest::yearly, x -> x.worth(0, 0, 99, 99), 0);
        Edges.asks("worth(0, 12, 99, 99)", EdgeMonthsTest::yearly, x -> x.worth(0, 12, 99, 99), 0);
        Edges.asks("worth(12, 12, 99, 99)", EdgeMonthsTest::yearly, x -> x.worth(12, 12, 99, 99), 0);
        Edges.asks("worth(3, 9, 1, 1)", EdgeMonthsTest::yearly, x -> x.worth(3, 9, 1, 1), 0);
    }

    // Promise 22 "Refused as told: -4; -6; -3"; Terms "REFUSALS are 1000000000 less them": each counted once.
    private static void promise22Refused() {
        Edges.refusedAnywhere("worth(0, 0, -1, 0)", x -> x.worth(0, 0, -1, 0), 1000000004);
        Edges.refusedAnywhere("worth(0, 0, 0, 100)", x -> x.worth(0, 0, 0, 100), 1000000006);
        Edges.refusedAnywhere("worth(1, 0, 0, 0)", x -> x.worth(1, 0, 0, 0), 1000000006);
        Edges.refused("worth(0, 0, 0, 0), no ROW", () -> without(0), x -> x.worth(0, 0, 0, 0), 1000000003);
        for (int far : Edges.FAR_BELOW) {
            Edges.refused("worth(" + far + ", ..)", EdgeMonthsTest::yearly, x -> x.worth(far, 0, 0, 0), 1000000004);
            Edges.refused("worth(0, " + far + ", ..)", EdgeMonthsTest::yearly, x -> x.worth(0, far, 0, 0), 1000000004);
            Edges.refused("worth(.., 0, " + far + ")", EdgeMonthsTest::yearly, x -> x.worth(0, 0, 0, far), 1000000004);
        }
        for (int far : Edges.FAR_ABOVE) {
            Edges.refused("worth(" + far + ", ..)", EdgeMonthsTest::yearly, x -> x.worth(far, far, 0, 0), 1000000006);
            Edges.refused("worth(0, " + far + ", ..)", EdgeMonthsTest::yearly, x -> x.worth(0, far, 0, 0), 1000000006);
            Edges.refused("worth(.., " + far + ", 0)", EdgeMonthsTest::yearly, x -> x.worth(0, 0, far, 0), 1000000006);
        }
    }

    public static void main(String[] args) throws ReflectiveOperationException {
        Edges.runAll(EdgeMonthsTest.class);
    }
}
