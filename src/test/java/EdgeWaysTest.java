/** Promises 15 to 17 and what Terms II tells of SOONEST, GENTLEST and DANGER: the edges. */
public final class EdgeWaysTest {
    private static void ways(String text, int minutes, int firstSoon, int harm, int firstGentle) {
        Edges.asks("soonest(0) of " + text, () -> Edges.of(text), x -> x.soonest(0), minutes);
        Edges.asks("soonest(1) of " + text, () -> Edges.of(text), x -> x.soonest(1), firstSoon);
        Edges.asks("gentlest(0) of " + text, () -> Edges.of(text), x -> x.gentlest(0), harm);
        Edges.asks("gentlest(1) of " + text, () -> Edges.of(text), x -> x.gentlest(1), firstGentle);
    }

    // Promises 15, 16 "0 it is OFF"; Terms II "-9 it is OFF": behind the last PART, and without PARTS.
    private static void promise15And16Off() {
        ways("pp100;t0;", 0, -9, 0, -9);
        ways("pp240;pk240;r2509;h0;t5;t5;", 0, -9, 0, -9);
        ways("s05;", 0, -9, 0, -9);
        Edges.asks("soonest(0) of nothing", RingAndFinger::new, x -> x.soonest(0), 0);
        Edges.asks("soonest(1) of nothing", RingAndFinger::new, x -> x.soonest(1), -9);
        Edges.asks("gentlest(0) of nothing", RingAndFinger::new, x -> x.gentlest(0), 0);
        Edges.asks("gentlest(1) of nothing", RingAndFinger::new, x -> x.gentlest(1), -9);
    }

    // Terms II "The fewest MINUTES", "the least HARM": by one TRY, where the cheapest one just goes over and no more.
    private static void terms2ByOneTry() {
        ways("pp000;", 1, 0, 1, 0);
        ways("pp180;r1809;", 1, 0, 1, 0);
        ways("pp181;r1809;", 1, 4, 1, 1);
        ways("pp184;r1809;", 1, 4, 1, 1);
        ways("pp185;r1809;", 1, 4, 1, 2);
        ways("pp186;r1809;", 1, 4, 1, 2);
        ways("pp187;r1809;", 3, 2, 1, 2);
        ways("pp188;r1809;", 6, 5, 1, 6);
        ways("pp188;r1801;", 4, 3, 1, 3);
        ways("pp195;r1809;", 6, 5, 2, 5);
    }

    // Terms II "the first of these .. of all such ways the least": a TRY and a PULLED one take a minute and do, a
    // SOAPED, a TURNED and a COOLED one do one HARM.
    private static void terms2TheLeastFirst() {
        ways("pp180;pp180;", 2, 0, 2, 0);
        ways("pp183;", 1, 4, 1, 1);
        // By THREADED ones and two COOLED ones in any order, the last of them at the plain PART.
        ways("pk195;pk195;pp195;r1809;", 28, 5, 6, 5);
    }

    // Terms II "THREADED ones twice at most": each of these needs one, and there is no third.
    private static void terms2ThreadedTwiceAtMost() {
        ways("pk195;r1809;", 6, 5, 2, 5);
        ways("pk195;pk195;r1809;", 12, 5, 4, 5);
        ways("pk195;pk195;pk195;r1809;", -9, -9, -9, -9);
        RingAndFinger x = Edges.of("pk195;pk195;pk195;pk195;r1809;t5;t5;");
        x.set(2, 0);
        Edges.due("two already done, two to do", x.soonest(0), 12);
        Edges.due("two already done, two to do", x.gentlest(0), 4);
        x.tries(5);
        Edges.due("three already done", x.soonest(1), 5);
        x.tries(5);
        Edges.due("OFF by four", x.soonest(1), -9);
    }

    // Terms II "WAITS of 5 MINUTES": SWELL 2 goes by one, 4 by two; half of SWELL 1 is none.
    private static void terms2WaitsOfFive() {
        ways("pk195;r1809;s01;", 6, 5, 2, 5);
        ways("pk195;r1809;s02;", 11, 7, 2, 7);
        ways("pk195;r1809;s03;", 11, 7, 2, 7);
        ways("pk195;r1809;s04;", 16, 7, 2, 7);
    }

    // Terms II "-9": a KNUCKLE of 199 is 195 at the least (COOLED, COOLED, two WAITS, COOLED), one of 200 never is.
    private static void terms2Never() {
        ways("pk199;r1809;", 40, 6, 5, 6);
        ways("pk200;r1809;", -9, -9, -9, -9);
        ways("pk200;r1809;c20;", 6, 5, 2, 5);
        ways("pk201;r1809;c20;", -9, -9, -9, -9);
        ways("pp100;pk200;r1809;", -9, -9, -9, -9);
        ways("pk200;pp100;r1809;", -9, -9, -9, -9);
    }

    // Terms II "MINUTES (0 .. 120)", "GENTLEST .. in however many MINUTES": 214 and SWELL 30 go by three COOLED ones,
    // eighteen WAITS and a THREADED one, 120; a TRY more makes it 121: never soon, but GENTLEST still tells.
    private static void terms2OneHundredAndTwenty() {
        ways("pp213;r1809;s30;", 115, 7, 5, 7);
        ways("pp214;r1809;s30;", 120, 7, 5, 7);
        ways("pp214;pk176;r1809;s30;", -9, -9, 6, 7);
        ways("pp215;r1809;s30;", -9, -9, -9, -9);
    }

    // Terms II "in however many MINUTES": two hours and more, in front of as many PARTS as there may be. (HARM 60 is
    // not reached: 13 is the most that was seen in 300000 chance fingers.)
    private static void terms2GentlestOfSix() {
        ways("pt200;pp205;ps206;ps213;pj173;ps182;r1809;s25;", -9, -9, 13, 7);
        ways("pp214;pp180;pp180;pp180;pp180;pp180;r1809;s30;", -9, -9, 10, 7);
        ways("pp100;pp100;pp100;pp100;pp100;pp100;", 6, 0, 6, 0);
    }

    // Terms II "from now": only what is still ahead is gone over, with SWELL, COLD, SIZE and BROAD as they are.
    private static void terms2FromNow() {
        RingAndFinger x = Edges.of("pp100;pp180;pp240;r1809;t0;");
        Edges.due("soonest(0), the last never", x.soonest(0), -9);
        x.set(0, 240);
        Edges.due("soonest(0), SIZE 240", x.soonest(0), 2);
        x.set(2, 30);
        x.set(3, 20);
        Edges.due("soonest(0), 190 by a TRY, 250 by a THREADED one", x.soonest(0), 7);
        x.tries(0);
        x.back();
        x.set(0, 180);
        Edges.due("soonest(0), back at the root", x.soonest(0), -9);
    }

    // Terms II "from now": MINUTE is no bound for what may be (it is for what is done).
    private static void terms2WaysAt999() {
        Edges.asks("soonest(0) at 999", () -> Edges.late("pp100;", 999), x -> x.soonest(0), 1);
        Edges.asks("soonest(1) at 999", () -> Edges.late("pp100;", 999), x -> x.soonest(1), 0);
        Edges.asks("gentlest(0) at 999", () -> Edges.late("pp100;", 999), x -> x.gentlest(0), 1);
        Edges.asks("gentlest(1) at 999", () -> Edges.late("pp100;", 999), x -> x.gentlest(1), 0);
    }

    // Promise 15 "-2": what 0 and 1 are, no other, wherever the RING is.
    private static void promise15Other() {
        Edges.refusedAnywhere("soonest(2)", x -> x.soonest(2), -2);
        Edges.refusedFar("soonest", RingAndFinger::soonest, -2, -2);
    }

    // Promise 16 "-2": likewise.
    private static void promise16Other() {
        Edges.refusedAnywhere("gentlest(2)", x -> x.gentlest(2), -2);
        Edges.refusedFar("gentlest", RingAndFinger::gentlest, -2, -2);
    }

    /** BLUE as asked for, by THREADED TRIES that do not go over and a WAIT. */
    private static RingAndFinger blue(int blue) {
        RingAndFinger x = Edges.of("pp240;r1009;");
        int n = Math.min(20, (blue + 4) / 5);
        for (int i = 0; i < n; i++) {
            x.tries(5);
        }
        if (x.count(4) > blue) {
            x.pause(x.count(4) - blue);
        }
        return x;
    }

    private static void danger(int blue, int n, int want) {
        Edges.asks("danger(" + n + ") at BLUE " + blue, () -> blue(blue), x -> x.danger(n), want);
    }

    // Promise 17 "DANGER."; Terms II "till BLUE is 9 or less": at 9 no WAIT, at 10 one minute.
    private static void terms2DangerNineOrLess() {
        danger(0, 0, 0);
        danger(9, 0, 0);
        danger(10, 0, 1);
        danger(4, 1, 0);
        danger(5, 1, 1);
        danger(0, 1, 0);
        danger(0, 2, 1);
        danger(8, 0, 0);
    }

    // Terms II "by n THREADED TRIES more (0 .. 9)": 5 BLUE each, from none to nine.
    private static void terms2DangerByTries() {
        for (int n = 0; n <= 9; n++) {
            danger(0, n, Math.max(0, 5 * n - 9));
            danger(20, n, 11 + 5 * n);
        }
    }

    // Terms II "(0 .. 99)"; Terms I "BLUE is 5 more", "99 at most": never more than 90 minutes.
    private static void terms2DangerAtMost() {
        danger(54, 9, 90);
        danger(53, 9, 89);
        danger(55, 9, 90);
        danger(94, 1, 90);
        danger(93, 1, 89);
        danger(95, 1, 90);
        danger(99, 0, 90);
        danger(99, 9, 90);
    }

    // Terms II "DANGER": wherever the RING is, it is not asked whether a TRY can be.
    private static void terms2DangerOff() {
        Edges.asks("danger(9) without PARTS", RingAndFinger::new, x -> x.danger(9), 36);
        Edges.asks("danger(9) OFF", () -> Edges.of("pp100;t5;"), x -> x.danger(9), 41);
        Edges.asks("danger(9) at 999", () -> Edges.late("pp100;", 999), x -> x.danger(9), 36);
    }

    // Promise 17 "-4; -6 9.": 0 and 9 are taken, one more or less is not, nor what is far away.
    private static void promise17Refused() {
        Edges.refusedAnywhere("danger(10)", x -> x.danger(10), -6);
        Edges.refusedFar("danger", RingAndFinger::danger, -4, -6);
    }

    public static void main(String[] args) throws ReflectiveOperationException {
        Edges.runAll(EdgeWaysTest.class);
    }
}
