import java.util.Arrays;

/** Promises 23 to 30 and what Terms II tells of WENT ON, FEEL, JUDGED, LOTS, THE IMAGE and REFUSALS: the edges. */
public final class EdgeToldTest {
    private static RingAndFinger plain() {
        return Edges.of("pp180;r1809;");
    }

    private static RingAndFinger told(String text, int... numbers) {
        return Edges.rows(Edges.of(text), numbers);
    }

    private static RingAndFinger passed() {
        return Edges.of("pp100;t0;");
    }

    private static void went(String text, int kind, int many, int greatest) {
        Edges.asks("went(" + kind + ", 0) of " + text, () -> Edges.of(text), x -> x.went(kind, 0), many);
        Edges.asks("went(" + kind + ", 1) of " + text, () -> Edges.of(text), x -> x.went(kind, 1), greatest);
    }

    // Promise 23 "how many (what 0), the greatest (1; -9)"; Terms II "SWELLS (0 .. 30": none, 0 alone, all but 30, all.
    private static void promise23Went() {
        went("pp181;", 0, 0, -9);
        went("pp180;", 0, 1, 0);
        went("pp179;", 0, 2, 1);
        went("pp151;", 0, 30, 29);
        went("pp150;", 0, 31, 30);
        went("pp000;", 0, 31, 30);
        went("pp240;", 5, 0, -9);
    }

    // Terms II "no more than SIZE and what a KIND allows": of each KIND just none and just 0.
    private static void terms2WentByKind() {
        int[] allows = {0, 4, 7, 0, 6, 15, 4};
        for (int kind = 0; kind < 7; kind++) {
            went("pp" + (180 + allows[kind]) + ";r1809;", kind, 1, 0);
            went("pp" + (181 + allows[kind]) + ";r1809;", kind, 0, -9);
        }
        went("pp188;r1801;", 3, 1, 0);
        went("pp189;r1801;", 3, 0, -9);
    }

    // Terms II "(.. COLD, HEAT as they are)": COLD tells, a COOLED KIND brings none more; SWELL as it is does not.
    private static void terms2WentAsTheyAre() {
        went("pp200;c20;s30;", 0, 1, 0);
        went("pp201;c20;s30;", 0, 0, -9);
        went("pp200;c20;", 6, 5, 4);
        went("pj180;h0;", 0, 2, 1);
        went("pj180;h1;", 0, 0, -9);
        went("pj171;h9;", 0, 2, 1);
    }

    // Terms II "as they are": as they became by set, a TRY, a WAIT and THE IMAGE, asked at once behind each.
    private static void terms2WentAsTheyBecame() {
        RingAndFinger x = Edges.of("pp192;r1809;");
        x.image();
        x.set(3, 13);
        Edges.due("went(0, 1), COLD 13", x.went(0, 1), 1);
        x.tries(6);
        Edges.due("went(0, 1), COLD 20", x.went(0, 1), 8);
        x.pause(9);
        Edges.due("went(0, 1), COLD 17", x.went(0, 1), 5);
        x.set(0, 182);
        Edges.due("went(0, 1), SIZE 182", x.went(0, 1), 7);
        x.on();
        Edges.due("went(0, 1), COLD 0 again", x.went(0, 1), -9);
    }

    // Terms II "all PARTS": the thickest tells, passed or not, wherever it is; without PARTS all are.
    private static void terms2WentAllParts() {
        went("pp180;pp100;pp100;", 0, 1, 0);
        went("pp100;pp180;pp100;", 0, 1, 0);
        went("pp100;pp100;pp180;", 0, 1, 0);
        went("pp180;pp100;t0;s00;", 0, 1, 0);
        went("pp180;t0;s00;", 0, 1, 0);
        went("s00;", 0, 31, 30);
    }

    // Terms I "if SWELL is above 9", as WENT ON has it: a ROLL of 160 is 178 at 9 and 183 at 10.
    private static void terms1WentOfRoll() {
        went("pr160;", 0, 10, 9);
        went("pr157;", 0, 11, 10);
        went("ps160;", 0, 11, 10);
    }

    // Promise 23 "-2 either": KINDS 0 .. 6, what 0 and 1.
    private static void promise23Refused() {
        Edges.refusedAnywhere("went(7, 0)", x -> x.went(7, 0), -2);
        Edges.refusedAnywhere("went(0, 2)", x -> x.went(0, 2), -2);
        Edges.refused("went(7, 2)", Edges::midway, x -> x.went(7, 2), -2);
        for (int far : Edges.FAR_BELOW) {
            Edges.refused("went(" + far + ", 0)", Edges::midway, x -> x.went(far, 0), -2);
            Edges.refused("went(0, " + far + ")", Edges::midway, x -> x.went(0, far), -2);
        }
        for (int far : Edges.FAR_ABOVE) {
            Edges.refused("went(" + far + ", 1)", Edges::off, x -> x.went(far, 1), -2);
            Edges.refused("went(6, " + far + ")", Edges::off, x -> x.went(6, far), -2);
        }
    }

    private static void feel(String text, int least, int greatest, int... numbers) {
        Edges.asks("feel(0) of " + text, () -> told(text, numbers), x -> x.feel(0), least);
        Edges.asks("feel(1) of " + text, () -> told(text, numbers), x -> x.feel(1), greatest);
    }

    // Promise 24 "FEEL: the least (what 0), the greatest (1)"; Terms II "THICK (0 .. 240)": an empty ROW tells nothing.
    private static void promise24NothingTold() {
        feel("pp000;", 0, 240);
        feel("pp240;", 0, 240);
    }

    // Terms II "by which all is so": just as much goes over, one more does not; whatever THICK it is.
    private static void terms2FeelOneTry() {
        feel("pp000;r1809;", 0, 180, 0, 1);
        feel("pp240;r1809;", 181, 240, 0, 0);
        feel("pp240;r1809;", 0, 195, 5, 1);
        feel("pp240;r1809;", 196, 240, 5, 0);
        feel("pp240;r1809;", 0, 192, 6, 1);
        feel("pp240;r1809;", 193, 240, 6, 0);
    }

    // Terms II "(0 .. 240)": 240 is the least there, 241 is not; 240 is the greatest though more would go over.
    private static void terms2FeelRange() {
        feel("pp000;r2399;", 240, 240, 0, 0);
        feel("pp000;r2399;", 0, 239, 0, 1);
        feel("pp000;r2409;", -9, -9, 0, 0);
        feel("pp000;r2409;", 0, 240, 0, 1);
        feel("pp000;r2509;", 0, 240, 0, 1);
        feel("pp000;r2509;", -9, -9, 5, 0);
        feel("pr000;r1009;s30;", 0, 37, 0, 1);
        feel("pr000;r1009;s30;", 38, 240, 0, 0);
    }

    // Terms II "-9": one THICK alone, and none.
    private static void terms2FeelOneOrNone() {
        feel("pp000;r1809;", 181, 182, 0, 0, 1, 1);
        feel("pp000;r1808;s30;", 151, 151, 0, 0, 3, 1);
        feel("pp000;r1809;s30;", -9, -9, 0, 0, 3, 1);
        feel("pp000;r1809;", -9, -9, 0, 0, 0, 1);
        feel("pp000;r1809;", -9, -9, 5, 0, 0, 1);
    }

    // Terms II "SWELL, COLD go on by each, the RING stays": SWELL 2 more makes it 2 less; SWELL 30, COLD 20 at most.
    private static void terms2FeelGoesOn() {
        feel("pp000;r1809;", 0, 178, 0, 1, 0, 1);
        feel("pp000;r1809;", 0, 176, 0, 1, 0, 1, 0, 1);
        feel("pp000;r1809;s29;", 0, 150, 0, 1, 0, 1, 0, 1);
        feel("pp000;r1809;c15;", 0, 204, 6, 1);
        feel("pp000;r1809;c12;", 0, 202, 6, 1, 6, 1);
        Edges.asks("feel(1) of the second", () -> told("pp100;pp240;s05;r1809;t5;", 0, 1, 0, 1), x -> x.feel(1), 172);
        Edges.asks("feel(1) of the first", () -> told("pp240;pp100;r1809;", 0, 1, 0, 1), x -> x.feel(1), 178);
    }

    // Terms II "from now": from what became by set, a TRY, a WAIT and THE IMAGE, asked at once behind each.
    private static void terms2FeelFromNow() {
        RingAndFinger x = told("pp240;r1809;", 0, 1);
        x.image();
        x.set(2, 5);
        Edges.due("feel(1), SWELL 5", x.feel(1), 175);
        x.tries(0);
        Edges.due("feel(1), SWELL 7", x.feel(1), 173);
        x.pause(8);
        Edges.due("feel(1), SWELL 3", x.feel(1), 177);
        x.set(0, 190);
        Edges.due("feel(1), SIZE 190", x.feel(1), 187);
        x.on();
        Edges.due("feel(1), SWELL 0 again", x.feel(1), 180);
    }

    // Promise 24 "-3 .. the ROW has not twos as told": an odd ROW, a KIND above 6, neither 1 nor 0, wherever in it.
    private static void promise24NotTwos() {
        int[] good = {6, 1, 0, 0, 5, 1, 3, 0, 2, 1, 6, 0};
        for (int n = 0; n <= 12; n++) {
            int[] some = Arrays.copyOf(good, n);
            if (n % 2 == 0) {
                Edges.due("feel(0) of " + n + " numbers is no REFUSAL", told("pp180;", some).feel(0) == -3 ? 1 : 0, 0);
            } else {
                Edges.refused("feel(0) of " + n + " numbers", () -> told("pp180;", some), x -> x.feel(0), -3);
            }
        }
        for (int i = 0; i < 12; i++) {
            for (int bad = i % 2 == 0 ? 7 : 2; bad <= 9; bad++) {
                int[] one = good.clone();
                one[i] = bad;
                String call = "feel(1), a " + bad + " at " + i;
                Edges.refused(call, () -> told("pp180;", one), x -> x.feel(1), -3);
            }
        }
    }

    // Promise 24 "-3 it is OFF": without PARTS, behind the last; not in front of the last.
    private static void promise24Off() {
        Edges.refused("feel(0) without PARTS", RingAndFinger::new, x -> x.feel(0), -3);
        Edges.refused("feel(1) OFF", EdgeToldTest::passed, x -> x.feel(1), -3);
        Edges.refused("feel(1) OFF, good twos", () -> told("pp100;t0;", 0, 1), x -> x.feel(1), -3);
        Edges.asks("feel(1) at the last", () -> Edges.of("pp100;pp100;t0;"), x -> x.feel(1), 240);
    }

    // Promise 24 "-2; -3": what 0 and 1 are, no other; in this order.
    private static void promise24Other() {
        Edges.refusedAnywhere("feel(2)", x -> x.feel(2), -2);
        Edges.refusedFar("feel", RingAndFinger::feel, -2, -2);
        Edges.refused("feel(2), odd ROW", () -> told("pp100;", 9), x -> x.feel(2), -2);
    }

    // Promise 25 "A number more of the ROW (0 .. 9): how many": each number, from the first to the twelfth.
    private static void promise25Row() {
        RingAndFinger x = new RingAndFinger();
        for (int i = 0; i < 12; i++) {
            Edges.due("row(" + i % 10 + ")", x.row(i % 10), i + 1);
            Edges.due("in the ROW", x.count(8), i + 1);
        }
    }

    // Promise 25 "-4; -6 (9; ..": -1 and 10 are refused, and what is far away.
    private static void promise25Range() {
        Edges.refusedAnywhere("row(-1)", x -> x.row(-1), -4);
        Edges.refusedAnywhere("row(10)", x -> x.row(10), -6);
        Edges.refusedFar("row", RingAndFinger::row, -4, -6);
    }

    // Promise 25 "-6 (.. 12, too)": the 13th of each number is refused; -4 ahead of it.
    private static void promise25Twelve() {
        for (int v = 0; v <= 9; v++) {
            int number = v;
            Edges.refused("row(" + v + "), the 13th", Edges::full, x -> x.row(number), -6);
        }
        Edges.refused("row(-1), the 13th", Edges::full, x -> x.row(-1), -4);
        Edges.refused("row(10), the 13th", Edges::full, x -> x.row(10), -6);
        RingAndFinger x = Edges.full();
        x.judge();
        Edges.due("row(9) behind judge()", x.row(9), 1);
    }

    private static void judged(String text, int want, int... numbers) {
        RingAndFinger x = told(text, numbers);
        RingAndFinger twin = Edges.of(text);
        Edges.due("judge() of " + text, x.judge(), want);
        Edges.due("the ROW then", x.count(8), 0);
        for (int what = 0; what <= 17; what++) {
            Edges.due("behind judge(): count(" + what + ")", x.count(what), twin.count(what));
        }
    }

    // Promise 26 "JUDGED"; Terms II "the first behind which the RING is OFF": the first of the ROW, the last, 0 .. 11.
    private static void promise26TheFirst() {
        for (int place = 0; place < 12; place++) {
            int[] numbers = new int[12];
            Arrays.fill(numbers, 9);
            numbers[place] = 0;
            judged("pp100;", place, numbers);
        }
        judged("pp100;", 0, 0, 0, 0, 0);
        judged("pp100;pp100;", 1, 0, 0, 0, 0);
        judged(Edges.times("pp100;", 6), 5, 0, 1, 2, 3, 4, 5, 6);
    }

    // Terms II "-9 it is not", promise 26 "-9 ..": a TRY too few; one more does.
    private static void promise26NotOff() {
        judged("pp100;pp100;", -9, 0);
        judged(Edges.times("pp100;", 6), -9, 0, 1, 2, 3, 4);
        judged("pp181;", -9, 0, 0, 0, 0, 0, 0, 0, 0, 0, 0, 0, 0);
        judged("pp180;", -9);
    }

    // Terms II "(7: a WAIT of 5)": SWELL 2 less by each, COLD 1 less.
    private static void terms2JudgedWaits() {
        judged("pp180;s10;", -9, 7, 7, 7, 7, 0);
        judged("pp180;s10;", 5, 7, 7, 7, 7, 7, 0);
        judged("pp181;c02;", 1, 7, 0);
        judged("pp181;c02;", -9, 7, 7, 0);
        judged("pp100;", -9, 7);
    }

    // Terms II "from now": from what became by set, a TRY, a WAIT and THE IMAGE, asked at once behind each.
    private static void terms2JudgedFromNow() {
        RingAndFinger x = told("pp100;pp178;r1809;s10;", 0, 0);
        x.image();
        Edges.due("judge(), SWELL 10", x.judge(), -9);
        Edges.rows(x, 0, 0).set(2, 0);
        Edges.due("judge(), SWELL 0", x.judge(), 1);
        Edges.rows(x, 0).tries(0);
        Edges.due("judge() behind a TRY", x.judge(), 0);
        Edges.rows(x, 0, 0).back();
        Edges.due("judge(), back at the root", x.judge(), -9);
        Edges.rows(x, 0, 0).pause(4);
        Edges.due("judge() behind a WAIT", x.judge(), 1);
        Edges.rows(x, 0, 0).on();
        Edges.due("judge() behind on()", x.judge(), -9);
    }

    // Promise 26 "numbers above 7 do nothing": 8 and 9, but their places count.
    private static void promise26AboveSeven() {
        judged("pp180;s02;", -9, 8, 9, 8, 9, 0);
        judged("pp180;", 4, 8, 9, 8, 9, 0);
        judged("pp100;", -9, 8, 9);
    }

    // Promise 26 "OFF at first: -9", "whichever it answers, the ROW has none then".
    private static void promise26OffAtFirst() {
        judged("pp100;t0;", -9, 0, 0);
        judged("pp100;t0;", -9, 7);
        judged("s01;", -9, 0);
        RingAndFinger x = told("pp100;", 0);
        Edges.due("judge()", x.judge(), 0);
        Edges.due("judge() again, none in the ROW", x.judge(), -9);
    }

    // Terms II "from now": also where MINUTE has no room for it.
    private static void terms2JudgedAt999() {
        RingAndFinger x = Edges.rows(Edges.late("pp100;pp100;", 999), 0, 7, 6);
        Edges.due("judge() at 999", x.judge(), 2);
        Edges.due("MINUTE", x.count(5), 999);
    }

    private static int seed;

    private static int draw(int below) {
        seed = (int) ((seed & 0xffffffffL) * 1664525L + 1013904223L);
        return (int) ((seed & 0x7fffffffL) / 256 % below);
    }

    /** Evenings of plain PARTS, by the words of the document. */
    private static int evenings(int[] thick, int size, int broad, int cold, int n, int z) {
        int[] allows = {0, 4, 7, 9 - broad, 6, 15};
        int[] swells = {2, 2, 3, 1, 5, 1};
        int[] harms = {1, 1, 1, 1, 3, 2};
        seed = z;
        int harm = 0;
        for (int i = 0; i < n; i++) {
            int swell = draw(31);
            int front = 0;
            for (int t = 0; t < 12 && front < thick.length; t++) {
                int kind = draw(6);
                front += Math.max(0, thick[front] + swell - cold) <= size + allows[kind] ? 1 : 0;
                swell = Math.min(30, swell + swells[kind]);
                harm += harms[kind];
            }
        }
        return harm;
    }

    private static RingAndFinger evening() {
        return Edges.of("pp170;pp165;pp160;r1755;c04;s11;");
    }

    private static void lots(int n, int z) {
        Edges.asks("lots(" + n + ", " + z + ")", EdgeToldTest::evening, x -> x.lots(n, z),
            evenings(new int[] {170, 165, 160}, 175, 5, 4, n, z));
    }

    // Promise 27 "LOTS"; Terms II "n evenings (1 .. 20)": each n.
    private static void promise27Evenings() {
        for (int n = 1; n <= 20; n++) {
            lots(n, 7 * n);
        }
    }

    // Terms II "a seed z", "(an int)", "z without its sign's bit": whichever int it is.
    private static void terms2LotsSeeds() {
        int[] seeds = {0, 1, -1, 255, 256, 1 << 30, Integer.MAX_VALUE, Integer.MAX_VALUE - 1, Integer.MIN_VALUE,
            Integer.MIN_VALUE + 1, -1013904223, 0x7fffff00, 0x80000000};
        for (int z : seeds) {
            lots(1, z);
            lots(20, z);
        }
        for (int z = -300; z < 300; z += 7) {
            RingAndFinger x = evening();
            Edges.due("lots(5, " + z + ")", x.lots(5, z), evenings(new int[] {170, 165, 160}, 175, 5, 4, 5, z));
        }
    }

    // Terms II "(12 at most, till it is OFF)": a PART that none goes over takes all twelve, one that all do takes one.
    private static void terms2LotsTries() {
        Edges.asks("lots(3, 9), never", () -> Edges.of("pp240;r1009;"), x -> x.lots(3, 9),
            evenings(new int[] {240}, 100, 9, 0, 3, 9));
        Edges.asks("lots(20, 9), at once", () -> Edges.of("pp100;"), x -> x.lots(20, 9),
            evenings(new int[] {100}, 180, 4, 0, 20, 9));
        Edges.asks("lots(20, 9), six at once", () -> Edges.of(Edges.times("pp100;", 6)), x -> x.lots(20, 9),
            evenings(new int[] {100, 100, 100, 100, 100, 100}, 180, 4, 0, 20, 9));
    }

    // Terms II "all HARM together": of the evenings alone, not what there was; "from now else": not from the root.
    private static void terms2LotsFromNow() {
        Edges.asks("lots(4, 5) behind HARM 6", () -> Edges.of("pp100;pp240;r1009;t4;t4;"), x -> x.lots(4, 5),
            evenings(new int[] {240}, 100, 9, 0, 4, 5));
        Edges.asks("lots(4, 5) at 999", () -> Edges.late("pp240;r1009;", 999), x -> x.lots(4, 5),
            evenings(new int[] {240}, 100, 9, 0, 4, 5));
        Edges.asks("lots(20, 5) OFF", EdgeToldTest::passed, x -> x.lots(20, 5), 0);
        Edges.asks("lots(20, 5) without PARTS", RingAndFinger::new, x -> x.lots(20, 5), 0);
    }

    // Terms II "from now else": from what became by set, a TRY and THE IMAGE, asked at once behind each.
    private static void terms2LotsAsItBecame() {
        RingAndFinger x = evening();
        x.image();
        x.set(3, 11);
        Edges.due("lots(9, 1), COLD 11", x.lots(9, 1), evenings(new int[] {170, 165, 160}, 175, 5, 11, 9, 1));
        x.tries(6);
        Edges.due("lots(9, 1), one past", x.lots(9, 1), evenings(new int[] {165, 160}, 175, 5, 19, 9, 1));
        x.set(1, 9);
        x.set(0, 160);
        Edges.due("lots(9, 1), SIZE 160", x.lots(9, 1), evenings(new int[] {165, 160}, 160, 9, 19, 9, 1));
        x.on();
        Edges.due("lots(9, 1), as then", x.lots(9, 1), evenings(new int[] {170, 165, 160}, 175, 5, 4, 9, 1));
    }

    // Promise 27 "-4; -6 20.": 0 and 21 are refused, and what is far away, whichever the seed.
    private static void promise27Refused() {
        Edges.refusedAnywhere("lots(0, 5)", x -> x.lots(0, 5), -4);
        Edges.refusedAnywhere("lots(21, 5)", x -> x.lots(21, 5), -6);
        for (int far : Edges.FAR_BELOW) {
            Edges.refusedAnywhere("lots(" + far + ", -1)", x -> x.lots(far, -1), -4);
        }
        for (int far : Edges.FAR_ABOVE) {
            Edges.refusedAnywhere("lots(" + far + ", " + far + ")", x -> x.lots(far, far), -6);
        }
    }

    // Promise 28 "THE IMAGE is taken: MINUTE": at 0 and at 999; nothing else changes.
    private static void promise28Image() {
        Edges.due("image() of a new object", new RingAndFinger().image(), 0);
        Edges.due("image() at 999", Edges.late("pp100;", 999).image(), 999);
        RingAndFinger x = Edges.midway();
        Edges.due("image()", x.image(), 9);
        Edges.state("behind it", x, 6, 1, 4, 2, 2, 9, 2, 180, 3, 3, 6, 0, 0, 0, 0, 0, 0, 3);
    }

    // Terms "all that there is": each thing by itself is as it was then.
    private static void promise29EachThing() {
        for (int what = 0; what < 5; what++) {
            RingAndFinger x = Edges.of("pp180;pk170;r1905;s05;c06;h7;");
            x.image();
            int was = x.set(what, what == 0 ? 101 : 1);
            x.on();
            Edges.due("on(): set(" + what + ") gives what was then", x.set(what, was), was);
        }
        RingAndFinger x = Edges.of("pp180;pk170;ps160;s02;t5;t5;");
        x.image();
        Edges.tell(x, "pj100;pt240;t0;t6;t5;w10;");
        x.back();
        Edges.due("on()", x.on(), 12);
        Edges.state("behind it", x, 3, 2, 4, 0, 10, 12, 4, 180, 0, 0, 3, 0, 0, 0, 0, 0, 0, 4);
        for (int p = 0; p < 3; p++) {
            Edges.due("part(" + p + ", 0)", x.part(p, 0), p);
            Edges.due("part(" + p + ", 1)", x.part(p, 1), 180 - 10 * p);
        }
        Edges.due("part(3, 0)", x.part(3, 0), -1);
    }

    // Terms "but it, the ROW, letters, REFUSALS": these stay as they are.
    private static void promise29WhatStays() {
        RingAndFinger x = told("pp180;", 1, 2);
        Edges.letters(x, "s0");
        x.image();
        x.row(3);
        Edges.letters(x, "7;");
        x.pause(0);
        x.part(9, 9);
        x.on();
        Edges.state("behind on()", x, 1, 0, 0, 0, 0, 0, 0, 180, 3, 4, 3, 1, 0, 0, 1, 0, 0);
        Edges.due("hand of the letters", x.hand(), 1);
        Edges.due("SWELL", x.count(2), 7);
        x.judge();
        x.on();
        Edges.due("the ROW has still none", x.count(8), 0);
        Edges.due("letters still none", x.count(9), 0);
        Edges.due("SWELL again", x.count(2), 0);
    }

    // Terms "ON from it": as often as asked, from the last that was taken.
    private static void promise29Again() {
        RingAndFinger x = Edges.of("pp100;");
        x.image();
        for (int i = 0; i < 3; i++) {
            x.pause(60);
            Edges.due("on()", x.on(), 0);
        }
        x.pause(7);
        Edges.due("image() anew", x.image(), 7);
        x.pause(60);
        Edges.due("on() from the last", x.on(), 7);
        x.tries(0);
        x.on();
        Edges.due("not OFF as then", x.holds(), -80);
    }

    // Promise 29 "-3 there is none": of a new object and of one that is used; one of nothing is one.
    private static void promise29None() {
        Edges.refused("on() of a new object", RingAndFinger::new, RingAndFinger::on, -3);
        Edges.refused("on() of a used one", EdgeToldTest::plain, RingAndFinger::on, -3);
        RingAndFinger x = new RingAndFinger();
        Edges.due("on()", x.on(), -3);
        x.image();
        Edges.tell(x, "pp100;t0;w05;");
        Edges.due("on() to no PARTS", x.on(), 0);
        Edges.state("behind it", x, 0, 0, 0, 0, 0, 0, 0, 180, 0, 0, 3, 0, 0, 1, 0, 0, 0, 4);
        Edges.due("a PART comes again", Edges.tell(x, "pk100;"), 1);
        Edges.due("its KIND", x.part(0, 0), 1);
    }

    // Promise 30 "0 PARTS .. 17 BROAD": the most of each.
    private static void promise30TheMost() {
        RingAndFinger x = Edges.full();
        Edges.state("full", x, 6, 0, 30, 20, 99, 999, 40, 250, 12, 96, 9, 0, 0, 0, 0, 0, 0, 9);
        RingAndFinger off = Edges.of(Edges.times("pp100;", 6) + Edges.times("t0;", 6));
        Edges.due("OFF behind six: in front of which", off.count(1), 6);
    }

    // Promise 30 "11 .. 16 REFUSALS -1 .. -6": each by itself, -5 is never told.
    private static void promise30Refusals() {
        RingAndFinger x = new RingAndFinger();
        int[] want = new int[7];
        for (int round = 1; round <= 3; round++) {
            x.part(0, 0);
            x.kind(0, 9);
            x.stop();
            x.letter(-1);
            x.letter(999);
            x.worth(0, 0, 100, 0);
            want[1] = want[2] = want[3] = want[4] = round;
            want[6] = 2 * round;
            for (int no = 1; no <= 6; no++) {
                Edges.due("REFUSALS -" + no, x.count(10 + no), want[no]);
            }
        }
    }

    // Promise 30 "-9 for another what": below 0 and above 17, however far; that is no REFUSAL.
    private static void promise30Other() {
        Edges.asks("count(18)", Edges::midway, x -> x.count(18), -9);
        for (int far : Edges.FAR_BELOW) {
            Edges.asks("count(" + far + ")", Edges::midway, x -> x.count(far), -9);
        }
        for (int far : Edges.FAR_ABOVE) {
            Edges.asks("count(" + far + ")", Edges::midway, x -> x.count(far), -9);
        }
        for (int what = 0; what <= 17; what++) {
            Edges.due("count(" + what + ") is none", Edges.midway().count(what) == -9 ? 1 : 0, 0);
        }
    }

    // What it is: "at most 512 calls": all of them answer as the first.
    private static void promise30FiveHundredAndTwelve() {
        RingAndFinger x = new RingAndFinger();
        for (int i = 1; i <= 511; i++) {
            Edges.due("call " + i, x.letter(-1), -4);
        }
        Edges.due("the 512th call", x.count(14), 511);
        RingAndFinger pairs = Edges.of("pp240;r1009;");
        for (int i = 14; i < 512; i += 2) {
            pairs.image();
            Edges.due("call " + (i + 1), pairs.on(), 0);
        }
    }

    public static void main(String[] args) throws ReflectiveOperationException {
        Edges.runAll(EdgeToldTest.class);
    }
}
