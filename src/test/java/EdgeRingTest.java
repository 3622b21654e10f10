/** Promises 5 to 14 and what Terms tell of TRIES, of a WAIT, of WOULD, HOLDS, GOES, STOP and WAITED: the edges. */
public final class EdgeRingTest {
    private static final int[] ALLOWS = {0, 4, 7, 0, 6, 15, 4};
    private static final int[] MINUTES = {1, 2, 3, 4, 1, 6, 8};
    private static final int[] SWELLS = {2, 2, 3, 1, 5, 1, 2};
    private static final int[] HARMS = {1, 1, 1, 1, 3, 2, 1};

    private static RingAndFinger passed() {
        return Edges.of("pp100;t0;");
    }

    /** One plain PART, BROAD 9: a WALKED one allows nothing. */
    private static RingAndFinger plain(int thick, int size) {
        RingAndFinger x = Edges.of("pp" + thick + ";");
        x.set(0, size);
        x.set(1, 9);
        return x;
    }

    private static RingAndFinger plain(int thick, int size, int swell, int cold) {
        RingAndFinger x = plain(thick, size);
        x.set(2, swell);
        x.set(3, cold);
        return x;
    }

    // Promise 5 "-4 (100; 1; 0; 0; 0)": the least of each is taken, one less is not, nor is what is far below.
    private static void promise5Below() {
        int[] least = {100, 1, 0, 0, 0};
        for (int what = 0; what < 5; what++) {
            int w = what;
            RingAndFinger x = Edges.midway();
            x.set(w, least[w] + 1);
            Edges.due("set(" + w + ", " + least[w] + ")", x.set(w, least[w]), least[w] + 1);
            Edges.due("set(" + w + ") then", x.set(w, least[w] + 1), least[w]);
            Edges.refusedAnywhere("set(" + w + ", " + (least[w] - 1) + ")", y -> y.set(w, least[w] - 1), -4);
            for (int far : Edges.FAR_BELOW) {
                Edges.refused("set(" + w + ", " + far + ")", Edges::midway, y -> y.set(w, far), -4);
            }
        }
    }

    // Promise 5 "-6 (250; 9; 30; 20; 9)": the greatest of each is taken, one more is not, nor is what is far above.
    private static void promise5Above() {
        int[] most = {250, 9, 30, 20, 9};
        for (int what = 0; what < 5; what++) {
            int w = what;
            RingAndFinger x = Edges.midway();
            x.set(w, most[w] - 1);
            Edges.due("set(" + w + ", " + most[w] + ")", x.set(w, most[w]), most[w] - 1);
            Edges.due("set(" + w + ") then", x.set(w, most[w] - 1), most[w]);
            Edges.refusedAnywhere("set(" + w + ", " + (most[w] + 1) + ")", y -> y.set(w, most[w] + 1), -6);
            for (int far : Edges.FAR_ABOVE) {
                Edges.refused("set(" + w + ", " + far + ")", Edges::midway, y -> y.set(w, far), -6);
            }
        }
    }

    // Promise 5 "-2": what 0 .. 4 are, no other; ahead of -4 and -6.
    private static void promise5OtherWhat() {
        Edges.refusedAnywhere("set(5, 0)", x -> x.set(5, 0), -2);
        Edges.refused("set(5, -1)", Edges::midway, x -> x.set(5, -1), -2);
        Edges.refused("set(-1, 251)", Edges::midway, x -> x.set(-1, 251), -2);
        for (int far : Edges.FAR_BELOW) {
            Edges.refused("set(" + far + ", 5)", Edges::midway, x -> x.set(far, 5), -2);
        }
        for (int far : Edges.FAR_ABOVE) {
            Edges.refused("set(" + far + ", 5)", Edges::midway, x -> x.set(far, 5), -2);
        }
    }

    // Promise 5 "becomes v: what it was": each by itself, at first and then.
    private static void promise5WhatItWas() {
        RingAndFinger x = new RingAndFinger();
        int[] first = {180, 4, 0, 0, 3};
        int[] then = {100, 9, 30, 20, 0};
        for (int what = 0; what < 5; what++) {
            Edges.due("set(" + what + ") at first", x.set(what, then[what]), first[what]);
        }
        Edges.state("behind five sets", x, 0, 0, 30, 20, 0, 0, 0, 100, 0, 0, 0, 0, 0, 0, 0, 0, 0);
        Edges.due("BROAD", x.count(17), 9);
    }

    // Promise 6 "The RING is at the root again": from the root, from between, OFF, without PARTS.
    private static void promise6Back() {
        Edges.asks("back() without PARTS", RingAndFinger::new, RingAndFinger::back, 0);
        Edges.asks("back() at the root", () -> plain(100, 180), RingAndFinger::back, 0);
        RingAndFinger x = Edges.of(Edges.times("pp100;", 6) + Edges.times("t0;", 5));
        Edges.due("back() from the last", x.back(), 5);
        Edges.due("back() at the root", x.back(), 0);
        Edges.tell(x, Edges.times("w60;t0;", 6));
        Edges.due("back() OFF: PARTS", x.back(), 6);
        Edges.due("in front of PART 0", x.count(1), 0);
        Edges.due("no more OFF", x.would(0), 1);
        Edges.due("MINUTE stays", x.count(5), 5 + 6 * 61);
        Edges.due("HARM stays", x.count(6), 11);
    }

    // Promise 7 "-2 either": a KIND 0 .. 6, what 0 .. 3, no other.
    private static void promise7Other() {
        for (int kind = 0; kind < 7; kind++) {
            int k = kind;
            Edges.asks("kind(" + k + ", 0)", () -> plain(100, 180), x -> x.kind(k, 0), ALLOWS[k]);
            Edges.asks("kind(" + k + ", 1)", RingAndFinger::new, x -> x.kind(k, 1), MINUTES[k]);
            Edges.asks("kind(" + k + ", 2)", RingAndFinger::new, x -> x.kind(k, 2), SWELLS[k]);
            Edges.asks("kind(" + k + ", 3)", RingAndFinger::new, x -> x.kind(k, 3), HARMS[k]);
        }
        Edges.refusedAnywhere("kind(7, 0)", x -> x.kind(7, 0), -2);
        Edges.refusedAnywhere("kind(6, 4)", x -> x.kind(6, 4), -2);
        Edges.refused("kind(7, 4)", Edges::midway, x -> x.kind(7, 4), -2);
        for (int far : Edges.FAR_BELOW) {
            Edges.refused("kind(" + far + ", 0)", Edges::midway, x -> x.kind(far, 0), -2);
            Edges.refused("kind(0, " + far + ")", Edges::midway, x -> x.kind(0, far), -2);
        }
        for (int far : Edges.FAR_ABOVE) {
            Edges.refused("kind(" + far + ", 3)", Edges::midway, x -> x.kind(far, 3), -2);
            Edges.refused("kind(6, " + far + ")", Edges::midway, x -> x.kind(6, far), -2);
        }
    }

    // Promise 7 "as BROAD is"; Terms I "9 less BROAD": from BROAD 1 to 9, of a WALKED one alone.
    private static void promise7AsBroadIs() {
        for (int broad = 1; broad <= 9; broad++) {
            RingAndFinger x = new RingAndFinger();
            x.set(1, broad);
            for (int kind = 0; kind < 7; kind++) {
                Edges.due("kind(" + kind + ", 0), BROAD " + broad, x.kind(kind, 0), kind == 3 ? 9 - broad : ALLOWS[kind]);
            }
        }
    }

    // Promise 8 "A TRY: 1 the RING is past the PART, 0 not"; Terms I "no more than SIZE and what it allows": just as
    // much goes over, one more does not; a COOLED one is 8 colder ahead of it.
    private static void promise8NoMoreThanAllowed() {
        for (int kind = 0; kind < 7; kind++) {
            int just = 160 + ALLOWS[kind] + (kind == 6 ? 8 : 0);
            RingAndFinger x = plain(just, 160);
            Edges.due("tries(" + kind + ") at " + just, x.tries(kind), 1);
            Edges.due("in front of which", x.count(1), 1);
            x = plain(just + 1, 160);
            Edges.due("tries(" + kind + ") at " + (just + 1), x.tries(kind), 0);
            Edges.due("in front of which", x.count(1), 0);
        }
    }

    // Terms I "9 less BROAD": a WALKED TRY at each BROAD, just as much and one more.
    private static void terms1Walked() {
        for (int broad = 1; broad <= 9; broad++) {
            RingAndFinger x = plain(169 - broad, 160);
            x.set(1, broad);
            Edges.due("tries(3), BROAD " + broad, x.tries(3), 1);
            x = plain(170 - broad, 160);
            x.set(1, broad);
            Edges.due("tries(3), one more, BROAD " + broad, x.tries(3), 0);
        }
    }

    // Terms I "the RING is past it (OFF, when that was the last)": not OFF behind the last but one, of 1 to 6 PARTS.
    private static void terms1OffBehindTheLast() {
        for (int parts = 1; parts <= 6; parts++) {
            RingAndFinger x = Edges.of(Edges.times("pp100;", parts));
            for (int past = 1; past <= parts; past++) {
                Edges.due("tries(0)", x.tries(0), 1);
                Edges.due("in front of which", x.count(1), past);
                Edges.due("OFF", x.holds() == -9999 ? 1 : 0, past == parts ? 1 : 0);
            }
            Edges.due("tries(0) OFF", x.tries(0), -3);
        }
    }

    // Terms I "past it or not, SWELL is more then .., HARM, BLUE .., MINUTE": of each KIND, either way.
    private static void terms1PastItOrNot() {
        for (int kind = 0; kind < 7; kind++) {
            int cold = kind == 6 ? 8 : 0;
            int blue = kind == 5 ? 5 : 0;
            RingAndFinger x = plain(100, 160);
            x.tries(kind);
            Edges.state("past by " + kind, x, 1, 1, SWELLS[kind], cold, blue, MINUTES[kind], HARMS[kind], 160);
            x = plain(200, 160);
            x.tries(kind);
            Edges.state("not past by " + kind, x, 1, 0, SWELLS[kind], cold, blue, MINUTES[kind], HARMS[kind], 160);
        }
    }

    // Terms I "SWELL is more then (30 at most)": of each KIND just to 30, one above, and from 30.
    private static void terms1SwellThirtyAtMost() {
        for (int kind = 0; kind < 7; kind++) {
            for (int ahead : new int[] {29 - SWELLS[kind], 30 - SWELLS[kind], 31 - SWELLS[kind], 30}) {
                RingAndFinger x = plain(200, 100, ahead, 0);
                x.tries(kind);
                Edges.due("SWELL " + ahead + " behind tries(" + kind + ")", x.count(2), Math.min(30, ahead + SWELLS[kind]));
            }
        }
    }

    // Terms I "SWELL is more then": the PART is as thick as it was ahead of the TRY when it is looked at.
    private static void terms1SwellBehindTheTry() {
        RingAndFinger x = plain(160, 180, 20, 0);
        Edges.due("tries(0) at just SIZE", x.tries(0), 1);
        x = plain(160, 180, 21, 0);
        Edges.due("tries(0) at one more", x.tries(0), 0);
    }

    // Terms I "COLD is 8 more ahead of it (20 at most)": to 19, 20, not 21, from 20; the TRY is by that COLD.
    private static void terms1ColdTwentyAtMost() {
        int[][] colds = {{0, 8}, {11, 19}, {12, 20}, {13, 20}, {20, 20}};
        for (int[] c : colds) {
            RingAndFinger x = plain(164 + c[1], 160, 0, c[0]);
            Edges.due("tries(6) at COLD " + c[0], x.tries(6), 1);
            Edges.due("COLD behind it", x.count(3), c[1]);
            x = plain(165 + c[1], 160, 0, c[0]);
            Edges.due("tries(6) at COLD " + c[0] + ", one thicker", x.tries(6), 0);
            Edges.due("COLD behind it", x.count(3), c[1]);
        }
    }

    // Terms I "BLUE (99 at most)": by THREADED ones alone; 94 to 99, 95 to 99, from 99.
    private static void terms1BlueNinetyNineAtMost() {
        RingAndFinger x = plain(200, 100);
        for (int i = 1; i <= 19; i++) {
            x.tries(5);
            Edges.due("BLUE behind " + i, x.count(4), 5 * i);
        }
        x.tries(5);
        Edges.due("BLUE from 95", x.count(4), 99);
        x.tries(5);
        Edges.due("BLUE from 99", x.count(4), 99);
        x.pause(5);
        x.tries(5);
        Edges.due("BLUE from 94", x.count(4), 99);
        x.pause(6);
        x.tries(5);
        Edges.due("BLUE from 93", x.count(4), 98);
        for (int kind : new int[] {0, 1, 2, 3, 4, 6}) {
            x.tries(kind);
            Edges.due("BLUE behind tries(" + kind + ")", x.count(4), 98);
        }
    }

    // Promise 8 "-6 MINUTE would be above 999": of each KIND till 999, and a minute later not.
    private static void promise8MinuteAbove999() {
        for (int kind = 0; kind < 7; kind++) {
            int k = kind;
            int last = 999 - MINUTES[k];
            RingAndFinger x = Edges.late("pp240;r1009;", last);
            Edges.due("tries(" + k + ") at " + last, x.tries(k), 0);
            Edges.due("MINUTE", x.count(5), 999);
            Edges.refused("tries(" + k + ") a minute later", () -> Edges.late("pp100;", last + 1), y -> y.tries(k), -6);
            Edges.refused("tries(" + k + ") at 999", () -> Edges.late("pp100;", 999), y -> y.tries(k), -6);
        }
    }

    // Promise 8 "-3 it is OFF": behind the last, without PARTS; not in front of the last.
    private static void promise8Off() {
        for (int kind = 0; kind < 7; kind++) {
            int k = kind;
            Edges.refused("tries(" + k + ") OFF", EdgeRingTest::passed, x -> x.tries(k), -3);
            Edges.refused("tries(" + k + ") without PARTS", RingAndFinger::new, x -> x.tries(k), -3);
        }
        Edges.due("tries(0) at the last", Edges.of("pp100;pp100;t0;").tries(0), 1);
    }

    // Promise 8 "-2": KINDS 0 .. 6 are, no other.
    private static void promise8Other() {
        Edges.refusedAnywhere("tries(7)", x -> x.tries(7), -2);
        Edges.refusedFar("tries", RingAndFinger::tries, -2, -2);
    }

    // Promise 8 "-2; -3 it is OFF; -6": in this order.
    private static void promise8Order() {
        Edges.refused("tries(7) OFF, at 999", () -> Edges.late("pp100;t0;", 999), x -> x.tries(7), -2);
        Edges.refused("tries(0) OFF, at 999", () -> Edges.late("pp100;t0;", 999), x -> x.tries(0), -3);
        Edges.refused("tries(-1) at 999", () -> Edges.late("pp100;", 999), x -> x.tries(-1), -2);
    }

    // Promise 9 "m MINUTES (1 .. 60)", "-4; -6 (60; ..": 1 and 60 are taken, 0 and 61 not, nor what is far away.
    private static void promise9OneToSixty() {
        Edges.due("pause(1)", new RingAndFinger().pause(1), 1);
        Edges.due("pause(60)", new RingAndFinger().pause(60), 60);
        Edges.refusedAnywhere("pause(0)", x -> x.pause(0), -4);
        Edges.refusedAnywhere("pause(61)", x -> x.pause(61), -6);
        Edges.refusedFar("pause", RingAndFinger::pause, -4, -6);
    }

    // Promise 9 "-6 (.. MINUTE above 999)": till 999, not till 1000; -4 ahead of it.
    private static void promise9MinuteAbove999() {
        Edges.due("pause(60) at 939", Edges.late("", 939).pause(60), 999);
        Edges.refused("pause(60) at 940", () -> Edges.late("", 940), x -> x.pause(60), -6);
        Edges.due("pause(1) at 998", Edges.late("", 998).pause(1), 999);
        Edges.refused("pause(2) at 998", () -> Edges.late("", 998), x -> x.pause(2), -6);
        Edges.refused("pause(1) at 999", () -> Edges.late("", 999), x -> x.pause(1), -6);
        Edges.refused("pause(0) at 999", () -> Edges.late("", 999), x -> x.pause(0), -4);
        Edges.refused("pause(61) at 999", () -> Edges.late("", 999), x -> x.pause(61), -6);
    }

    // Promise 9 "A WAIT .. : MINUTE", also with the RING OFF or without PARTS.
    private static void promise9WhereverTheRingIs() {
        RingAndFinger x = Edges.of("pp100;t5;");
        Edges.due("pause(3) OFF", x.pause(3), 9);
        Edges.state("behind it", x, 1, 1, 0, 0, 2, 9, 2);
        Edges.due("pause(3) without PARTS", new RingAndFinger().pause(3), 3);
    }

    // Terms I "SWELL is m by 2, cut, less, COLD m by 3, cut, less, BLUE m less": each m from 1 to 60.
    private static void terms1WaitCuts() {
        for (int m = 1; m <= 60; m++) {
            RingAndFinger x = blue();
            x.pause(m);
            Edges.state("pause(" + m + ")", x, 1, 0, 30 - m / 2, 20 - m / 3, 99 - m, 120 + m, 40);
        }
    }

    private static RingAndFinger blue() {
        RingAndFinger x = plain(240, 100);
        for (int i = 0; i < 20; i++) {
            x.tries(5);
        }
        x.set(2, 30);
        x.set(3, 20);
        return x;
    }

    // Terms I "0 at least each": just to 0, one below, and from 0.
    private static void terms1WaitZeroAtLeast() {
        int[][] waits = {{1, 1, 1, 1}, {2, 1, 1, 0}, {3, 1, 1, 0}, {4, 1, 1, 0}, {20, 10, 6, 0}, {21, 10, 6, 0},
            {22, 10, 6, 0}, {60, 0, 0, 0}};
        for (int[] w : waits) {
            RingAndFinger x = plain(240, 100, w[1], w[2]);
            x.pause(w[0]);
            Edges.due("SWELL " + w[1] + " behind pause(" + w[0] + ")", x.count(2), Math.max(0, w[1] - w[0] / 2));
            Edges.due("COLD " + w[2] + " behind pause(" + w[0] + ")", x.count(3), Math.max(0, w[2] - w[0] / 3));
            Edges.due("BLUE 0 behind pause(" + w[0] + ")", x.count(4), 0);
        }
        for (int m = 4; m <= 6; m++) {
            RingAndFinger x = Edges.of("pp240;r1009;t5;");
            x.pause(m);
            Edges.due("BLUE 5 behind pause(" + m + ")", x.count(4), m == 4 ? 1 : 0);
        }
    }

    // Promise 10 "WOULD: 1, 0": just as much, one more, of each KIND, and nothing is changed by it.
    private static void promise10Would() {
        for (int kind = 0; kind < 7; kind++) {
            int k = kind;
            int just = 160 + ALLOWS[k] + (k == 6 ? 8 : 0);
            Edges.asks("would(" + k + ") at " + just, () -> plain(just, 160), x -> x.would(k), 1);
            Edges.asks("would(" + k + ") at " + (just + 1), () -> plain(just + 1, 160), x -> x.would(k), 0);
        }
        Edges.asks("would(6), COLD 20 at most", () -> plain(184, 160, 0, 13), x -> x.would(6), 1);
        Edges.asks("would(6), COLD 20 at most", () -> plain(185, 160, 0, 13), x -> x.would(6), 0);
    }

    // Terms II "WOULD a TRY go over": also when MINUTE has no room for the TRY.
    private static void terms2WouldAt999() {
        Edges.asks("would(0) at 999", () -> Edges.late("pp100;", 999), x -> x.would(0), 1);
    }

    // Promise 10 "-2; -3 it is OFF": KINDS 0 .. 6; in this order.
    private static void promise10Refused() {
        Edges.refusedAnywhere("would(7)", x -> x.would(7), -2);
        Edges.refusedFar("would", RingAndFinger::would, -2, -2);
        for (int kind = 0; kind < 7; kind++) {
            int k = kind;
            Edges.refused("would(" + k + ") OFF", EdgeRingTest::passed, x -> x.would(k), -3);
        }
        Edges.asks("would(0) at the last", () -> Edges.of("pp100;pp100;t0;"), x -> x.would(0), 1);
    }

    // Promise 11 "HOLDS; -9999."; Terms II "may be below 0": 0, one more, one less, the most and the least; OFF.
    private static void promise11Holds() {
        Edges.asks("holds() just", () -> plain(180, 180), RingAndFinger::holds, 0);
        Edges.asks("holds() one more", () -> plain(181, 180), RingAndFinger::holds, 1);
        Edges.asks("holds() one less", () -> plain(179, 180), RingAndFinger::holds, -1);
        Edges.asks("holds() the most", () -> Edges.of("pr240;s30;r1001;"), RingAndFinger::holds, 203);
        Edges.asks("holds() the least", () -> Edges.of("pp000;r2501;"), RingAndFinger::holds, -250);
        Edges.asks("holds() OFF", EdgeRingTest::passed, RingAndFinger::holds, -9999);
        Edges.asks("holds() without PARTS", RingAndFinger::new, RingAndFinger::holds, -9999);
        Edges.asks("holds() of the last", () -> Edges.of("pp100;pp120;t0;"), RingAndFinger::holds, -58);
    }

    private static void goes(int thick, int kind, int want) {
        Edges.asks("goes(" + kind + ") of " + thick, () -> plain(thick, 180), x -> x.goes(kind), want);
    }

    // Promise 12 "GOES; -9."; Terms II "how many do not go over ahead of the one that does (0 .. 12); -9 none": what
    // only swells goes at once or never.
    private static void promise12AtOnceOrNever() {
        for (int kind = 0; kind < 6; kind++) {
            goes(180 + ALLOWS[kind], kind, 0);
            goes(181 + ALLOWS[kind], kind, -9);
        }
    }

    // Terms II "the RING not past the PART in front": a COOLED one goes on getting colder, 8, 16, 20, and SWELL by 2:
    // ahead of none 192, of one 198, of two 200 go over, 201 never.
    private static void terms2GoesOfCooled() {
        goes(192, 6, 0);
        goes(193, 6, 1);
        goes(198, 6, 1);
        goes(199, 6, 2);
        goes(200, 6, 2);
        goes(201, 6, -9);
    }

    // Terms II "one behind the other": SWELL is 30 at most there, too, and COLD 20 at most.
    private static void terms2GoesAtTheMost() {
        Edges.asks("goes(6) at SWELL 30: 174", () -> plain(174, 180, 30, 0), x -> x.goes(6), 2);
        Edges.asks("goes(6) at SWELL 30: 175", () -> plain(175, 180, 30, 0), x -> x.goes(6), -9);
        Edges.asks("goes(6) at COLD 20: 204", () -> plain(204, 180, 0, 20), x -> x.goes(6), 0);
        Edges.asks("goes(6) at COLD 20: 205", () -> plain(205, 180, 0, 20), x -> x.goes(6), -9);
        Edges.asks("goes(0) at 999", () -> Edges.late("pp100;", 999), x -> x.goes(0), 0);
    }

    // Promise 12 "-2; -3 it is OFF": KINDS 0 .. 6; in this order.
    private static void promise12Refused() {
        Edges.refusedAnywhere("goes(7)", x -> x.goes(7), -2);
        Edges.refusedFar("goes", RingAndFinger::goes, -2, -2);
        for (int kind = 0; kind < 7; kind++) {
            int k = kind;
            Edges.refused("goes(" + k + ") OFF", EdgeRingTest::passed, x -> x.goes(k), -3);
        }
    }

    private static void stop(int thick, int want) {
        Edges.asks("stop() of " + thick, () -> plain(thick, 180), RingAndFinger::stop, want);
    }

    // Promise 13 "STOP; -9."; Terms II "the KIND with the least GOES, of several the first": where the first changes.
    private static void promise13Stop() {
        stop(180, 0);
        stop(181, 1);
        stop(184, 1);
        stop(185, 2);
        stop(187, 2);
        stop(188, 5);
        stop(195, 5);
        stop(196, 6);
        stop(200, 6);
        stop(201, -9);
    }

    // Terms II "of several the first": a WALKED one of BROAD 1 ahead of a THREADED one, behind a TURNED one.
    private static void terms2StopByBroad() {
        RingAndFinger x = plain(188, 180);
        x.set(1, 1);
        Edges.due("stop() of 188, BROAD 1", x.stop(), 3);
        x.set(1, 2);
        Edges.due("stop() of 188, BROAD 2", x.stop(), 5);
        x.set(0, 181);
        Edges.due("stop() of 188 at 181", x.stop(), 2);
    }

    // Promise 13 "-3 it is OFF".
    private static void promise13Off() {
        Edges.refused("stop() OFF", EdgeRingTest::passed, RingAndFinger::stop, -3);
        Edges.refused("stop() OFF, letters and a ROW", Edges::off, RingAndFinger::stop, -3);
        Edges.asks("stop() at the last", () -> Edges.of("pp100;pp100;t0;"), RingAndFinger::stop, 0);
    }

    private static void waited(int thick, int swell, int cold, int kind, int want) {
        Edges.asks("waited(" + kind + ") of " + thick + ", SWELL " + swell + ", COLD " + cold,
            () -> plain(thick, 180, swell, cold), x -> x.waited(kind), want);
    }

    // Promise 14 "WAITED; -9."; Terms II "the fewest MINUTES (0 .. 60)": 0 at once, 2 for each of SWELL, 60 at most.
    private static void promise14Waited() {
        waited(180, 0, 0, 0, 0);
        waited(180, 1, 0, 0, 2);
        waited(180, 29, 0, 0, 58);
        waited(180, 30, 0, 0, 60);
        waited(181, 30, 0, 0, -9);
        waited(181, 0, 0, 0, -9);
    }

    // Terms II "behind which a TRY of a KIND goes over": COLD goes too, and a COOLED TRY brings more behind the WAIT.
    private static void terms2WaitedAndCold() {
        waited(190, 0, 10, 0, 0);
        waited(190, 0, 9, 0, -9);
        waited(192, 0, 0, 6, 0);
        waited(193, 0, 0, 6, -9);
        waited(193, 0, 2, 6, 0);
        waited(192, 1, 0, 6, 2);
        waited(204, 0, 12, 6, 0);
        waited(204, 0, 11, 6, -9);
        waited(195, 0, 0, 5, 0);
        waited(196, 0, 0, 5, -9);
        waited(195, 30, 0, 5, 60);
    }

    // Terms II "the fewest MINUTES (0 .. 60) behind which": also past MINUTE 999.
    private static void terms2WaitedAt999() {
        RingAndFinger x = Edges.late("pp180;", 999);
        x.set(2, 10);
        Edges.due("waited(0) at 999", x.waited(0), 20);
    }

    // Promise 14 "-2; -3 it is OFF": KINDS 0 .. 6; in this order.
    private static void promise14Refused() {
        Edges.refusedAnywhere("waited(7)", x -> x.waited(7), -2);
        Edges.refusedFar("waited", RingAndFinger::waited, -2, -2);
        for (int kind = 0; kind < 7; kind++) {
            int k = kind;
            Edges.refused("waited(" + k + ") OFF", EdgeRingTest::passed, x -> x.waited(k), -3);
        }
    }

    public static void main(String[] args) throws ReflectiveOperationException {
        Edges.runAll(EdgeRingTest.class);
    }
}
