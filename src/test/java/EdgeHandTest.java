/** Promises 1 to 4 and what Terms I tell of PARTS, of a HAND and of how thick one is NOW: the edges. */
public final class EdgeHandTest {
    private static final String AHEAD = "s00;";
    private static final String[] STATEMENTS = {"pp150;", "pk150;", "ps150;", "pr150;", "pj150;", "pt150;", "r1804;",
        "s05;", "c05;", "h5;", "t0;", "w05;"};

    private static RingAndFinger two() {
        return Edges.of("pp150;pp100;s04;");
    }

    private static RingAndFinger six() {
        return Edges.of("pp240;pk000;ps100;pr101;pj102;pt103;r1009;");
    }

    /** A hand more for a finger of two PARTS: the FAULT, and that nothing of it came, with one REFUSAL counted neither. */
    private static void fault(String text, int want) {
        Edges.asks("hand of " + text, EdgeHandTest::two, x -> Edges.tell(x, text), want);
    }

    private static void taken(String text, int want) {
        Edges.due("hand of " + text, Edges.tell(two(), text), want);
    }

    private static String with(String text, int place, char c) {
        return text.substring(0, place) + c + text.substring(place + 1);
    }

    // Promise 1 "No PARTS."; Terms I "none at first", "180 at first", "4 at first", "0 at first", "all 0 at first",
    // "3 at first".
    private static void promise1AllIsAsAtFirst() {
        RingAndFinger x = new RingAndFinger();
        int[] want = {0, 0, 0, 0, 0, 0, 0, 180, 0, 0, 3, 0, 0, 0, 0, 0, 0, 4};
        for (int what = 0; what < want.length; what++) {
            Edges.due("new: count(" + what + ")", x.count(what), want[what]);
        }
    }

    // Promise 1 "No PARTS.": what needs one is refused or tells OFF.
    private static void promise1NothingThereYet() {
        for (int what = -1; what < 4; what++) {
            int w = what;
            Edges.refused("new: part(0, " + w + ")", RingAndFinger::new, x -> x.part(0, w), -1);
        }
        Edges.refused("new: tries(0)", RingAndFinger::new, x -> x.tries(0), -3);
        Edges.refused("new: would(0)", RingAndFinger::new, x -> x.would(0), -3);
        Edges.refused("new: goes(0)", RingAndFinger::new, x -> x.goes(0), -3);
        Edges.refused("new: stop()", RingAndFinger::new, RingAndFinger::stop, -3);
        Edges.refused("new: waited(0)", RingAndFinger::new, x -> x.waited(0), -3);
        Edges.refused("new: feel(0)", RingAndFinger::new, x -> x.feel(0), -3);
        Edges.refused("new: on()", RingAndFinger::new, RingAndFinger::on, -3);
        Edges.asks("new: holds()", RingAndFinger::new, RingAndFinger::holds, -9999);
        Edges.asks("new: back()", RingAndFinger::new, RingAndFinger::back, 0);
        Edges.asks("new: judge()", RingAndFinger::new, RingAndFinger::judge, -9);
        Edges.asks("new: hand()", RingAndFinger::new, RingAndFinger::hand, -1000);
    }

    // Promise 1 "A new object": what was done to another is not in it.
    private static void promise1ObjectsAreApart() {
        RingAndFinger first = new RingAndFinger();
        RingAndFinger other = Edges.full();
        other.part(9, 9);
        Edges.state("new, another full", first, 0, 0, 0, 0, 0, 0, 0, 180, 0, 0, 3, 0);
        Edges.due("new, another has an image", first.on(), -3);
        first.set(0, 100);
        Edges.state("full, another used", other, 6, 0, 30, 20, 99, 999, 40, 250, 12, 96, 9, 1, 0, 0);
    }

    // Promise 2 "A letter (0 .. 255) comes: how many there are.": each of them, the first and the last too.
    private static void promise2EachLetterComes() {
        RingAndFinger x = new RingAndFinger();
        for (int c = 0; c <= 255; c++) {
            if (c % 64 == 0) {
                x = new RingAndFinger();
            }
            Edges.due("letter(" + c + ")", x.letter(c), c % 64 + 1);
        }
        Edges.due("letters", x.count(9), 64);
    }

    // Promise 2 "-4": below 0, however far.
    private static void promise2Below() {
        for (int c : Edges.FAR_BELOW) {
            Edges.refusedAnywhere("letter(" + c + ")", x -> x.letter(c), -4);
        }
    }

    // Promise 2 "-6 (255; ..": above 255, however far.
    private static void promise2Above() {
        for (int c : Edges.FAR_ABOVE) {
            Edges.refusedAnywhere("letter(" + c + ")", x -> x.letter(c), -6);
        }
    }

    // Promise 2 "-6 (.. 96, too)"; Terms I "one by one (96 at most)": the 96th comes, the 97th does not.
    private static void promise2NinetySix() {
        RingAndFinger x = new RingAndFinger();
        Edges.letters(x, Edges.times("h", 95));
        Edges.due("the 96th letter", x.letter(';'), 96);
        Edges.due("the 97th letter", x.letter(';'), -6);
        Edges.due("letters", x.count(9), 96);
        Edges.refused("letter(0), 96 there", Edges::full, f -> f.letter(0), -6);
        Edges.refused("letter(255), 96 there", Edges::full, f -> f.letter(255), -6);
    }

    // Promise 2 "-4; -6": in this order, when there are 96.
    private static void promise2OrderWhenFull() {
        Edges.refused("letter(-1), 96 there", Edges::full, x -> x.letter(-1), -4);
        Edges.refused("letter(256), 96 there", Edges::full, x -> x.letter(256), -6);
    }

    // Promise 3 "The letters become a HAND, and are no more": behind it there is room for 96 again.
    private static void promise3LettersAreNoMore() {
        RingAndFinger x = new RingAndFinger();
        Edges.letters(x, Edges.times("s30;", 24));
        x.letter('x');
        Edges.due("24 STATEMENTS, a 97th letter refused", x.hand(), 24);
        Edges.due("letters behind it", x.count(9), 0);
        Edges.due("hand of no letters", x.hand(), -1000);
        Edges.due("the first letter again", x.letter('h'), 1);
        Edges.letters(x, "1;" + Edges.times("h0;", 31));
        Edges.due("96 again", x.count(9), 96);
        Edges.due("32 STATEMENTS", x.hand(), 32);
    }

    // Promise 3 "(with a FAULT neither)": also then they are no more, of either kind.
    private static void promise3LettersAreNoMoreWithFault() {
        RingAndFinger x = new RingAndFinger();
        Edges.due("hand of x", Edges.tell(x, "x"), -1000);
        Edges.due("letters behind it", x.count(9), 0);
        Edges.due("hand of s31;", Edges.tell(x, "s31;"), -2000);
        Edges.due("letters behind it", x.count(9), 0);
        Edges.due("hand of s30;", Edges.tell(x, "s30;"), 1);
    }

    // Promise 3 "the FAULT (nothing is counted)": no REFUSAL, and what was there stays.
    private static void promise3FaultIsNotCounted() {
        fault("x", -1000);
        fault("s31;", -2000);
        Edges.asks("hand(), nothing told", RingAndFinger::new, RingAndFinger::hand, -1000);
        RingAndFinger x = new RingAndFinger();
        Edges.tell(x, "x");
        Edges.tell(x, "t0;");
        for (int what = 11; what <= 16; what++) {
            Edges.due("behind two FAULTS: count(" + what + ")", x.count(what), 0);
        }
    }

    // Promise 3 "how many STATEMENTS": from one to as many as 96 letters hold.
    private static void promise3HowManyStatements() {
        for (int n = 1; n <= 32; n++) {
            Edges.due(n + " STATEMENTS", Edges.tell(new RingAndFinger(), Edges.times("h9;", n)), n);
        }
    }

    // Terms I "At least one STATEMENT": none lacks at place 0; one is enough, whichever.
    private static void terms1AtLeastOneStatement() {
        fault("", -1000);
        for (String one : STATEMENTS) {
            taken(one, 1);
        }
    }

    // Terms I "each with ";" behind": none behind it, another sign there, one too many.
    private static void terms1SemicolonBehind() {
        for (String one : STATEMENTS) {
            int end = one.length() - 1;
            fault(one.substring(0, end), -1000 - end);
            for (char c : ":<0 ,\0\u00ff\u00bb".toCharArray()) {
                fault(with(one, end, c), -1000 - end);
            }
            fault(one + ";", -1000 - one.length());
        }
        fault(";", -1000);
    }

    // Terms I "STATEMENTS": the letters that one begins with, and those next to them.
    private static void terms1FirstLetters() {
        for (char c = 0; c < 256; c++) {
            String text = AHEAD + c;
            fault(text, "prschtw".indexOf(c) >= 0 ? -1005 : -1004);
        }
    }

    // Terms I ""p" a letter of a KIND": p, k, s, r, j, t and no other.
    private static void terms1KindLetters() {
        for (char c = 0; c < 256; c++) {
            fault(AHEAD + "p" + c, "pksrjt".indexOf(c) >= 0 ? -1006 : -1005);
        }
        for (int kind = 0; kind < 6; kind++) {
            RingAndFinger x = Edges.of("p" + "pksrjt".charAt(kind) + "100;");
            Edges.due("its KIND", x.part(0, 0), kind);
        }
    }

    // Terms I "(3 digits)", "(a digit)", "(2 digits)": 0 .. 9 at each place of each, and the signs next to them not.
    private static void terms1Digits() {
        for (String one : STATEMENTS) {
            for (int i = one.charAt(0) == 'p' ? 2 : 1; i < one.length() - 1; i++) {
                for (char c = '0'; c <= '9'; c++) {
                    int got = Edges.tell(two(), with(one, i, c));
                    Edges.due(with(one, i, c) + " is of the form", got == 1 || got == -2000 ? 1 : 0, 1);
                }
                for (char c : "/:;+-. a\0\u00b2\u00ff".toCharArray()) {
                    fault(with(one, i, c), -1000 - i);
                }
            }
        }
    }

    // Terms I "(the end, if something lacks)": each statement cut at each place, behind another.
    private static void terms1SomethingLacks() {
        for (String one : STATEMENTS) {
            for (int i = 1; i < one.length(); i++) {
                fault(AHEAD + one.substring(0, i), -1000 - AHEAD.length() - i);
            }
        }
    }

    // Terms I "kind 1 the place of the first letter": at the last places that 96 letters have, and at their end.
    private static void terms1LastPlaces() {
        fault(Edges.times("h1;", 31) + "h1", -1095);
        fault(Edges.times("h1;", 31) + "h1x", -1095);
        fault(Edges.times("h1;", 31) + "hx;", -1094);
        fault(Edges.times("h1;", 31) + "x1;", -1093);
        fault(Edges.times("h1;", 31) + "s11", -1096);
        fault(Edges.times("h1;", 31) + "pp1", -1096);
        taken(Edges.times("h1;", 31) + "h1;", 32);
    }

    // Terms I "the first letter": of several wrong ones the first.
    private static void terms1FirstOfSeveral() {
        fault("s0x;h", -1002);
        fault("pxx50;x", -1001);
        fault("s00x;", -1003);
    }

    // Terms I "FAULT: kind 1 .. else kind 2": kind 1 tells, though one of kind 2 stands ahead of it.
    private static void terms1Kind1Ahead() {
        fault("s31;x", -1004);
        fault("pp241;t9;h", -1010);
        fault("w00;r0990", -1009);
        fault("t9", -1002);
    }

    // Terms I "the place of the first letter of the first STATEMENT": the first of several, its first letter, wherever
    // in it the number stands, up to the last place.
    private static void terms1PlaceOfTheStatement() {
        fault("s31;", -2000);
        fault("s01;r1800;", -2004);
        fault("s01;s31;c21;t9;", -2004);
        fault("h0;s00;c00;pp000;r1009;w61;", -2023);
        fault(Edges.times("h0;", 31) + "t7;", -2093);
        fault(Edges.times("s00;", 23) + "c21;", -2092);
    }

    // Terms I "THICK (0 .. 240 hundredths)": 000 and 240 come, 241 and 999 are no hand.
    private static void terms1Thick() {
        taken("pp000;", 1);
        taken("pp240;", 1);
        fault("pp241;", -2000);
        fault("pp250;", -2000);
        fault("pt999;", -2000);
        Edges.due("THICK 000", Edges.of("pp000;").part(0, 1), 0);
        Edges.due("THICK 240", Edges.of("pp240;").part(0, 1), 240);
    }

    // Terms I "SIZE (100 .. 250": the last that come and the first that do not.
    private static void terms1Size() {
        taken("r1004;", 1);
        taken("r2504;", 1);
        fault("r0994;", -2000);
        fault("r2514;", -2000);
        fault("r0004;", -2000);
        fault("r9994;", -2000);
        Edges.due("SIZE 100", Edges.of("r1004;").count(7), 100);
        Edges.due("SIZE 250", Edges.of("r2504;").count(7), 250);
    }

    // Terms I "BROAD (1 .. 9": 1 and 9 come, 0 does not; nor does SIZE then.
    private static void terms1Broad() {
        taken("r1801;", 1);
        taken("r1809;", 1);
        fault("r2000;", -2000);
        Edges.due("BROAD 1", Edges.of("r1801;").count(17), 1);
        Edges.due("BROAD 9", Edges.of("r1809;").count(17), 9);
    }

    // Terms I "SWELL (0 .. 30)".
    private static void terms1Swell() {
        taken("s00;", 1);
        taken("s30;", 1);
        fault("s31;", -2000);
        fault("s99;", -2000);
        Edges.due("SWELL 30", Edges.of("s30;").count(2), 30);
        Edges.due("SWELL 00", Edges.of("s30;s00;").count(2), 0);
    }

    // Terms I "COLD (0 .. 20)".
    private static void terms1Cold() {
        taken("c00;", 1);
        taken("c20;", 1);
        fault("c21;", -2000);
        fault("c99;", -2000);
        Edges.due("COLD 20", Edges.of("c20;").count(3), 20);
        Edges.due("COLD 00", Edges.of("c20;c00;").count(3), 0);
    }

    // Terms I "HEAT (0 .. 9": every digit is one.
    private static void terms1Heat() {
        for (int heat = 0; heat <= 9; heat++) {
            Edges.due("HEAT " + heat, Edges.of("h" + heat + ";").count(10), heat);
        }
    }

    // Terms I ""t" a TRY (a digit)": KINDS 0 .. 6 are, 7 .. 9 are a number out of range.
    private static void terms1TryKinds() {
        for (int kind = 0; kind <= 6; kind++) {
            taken("t" + kind + ";", 1);
        }
        for (int kind = 7; kind <= 9; kind++) {
            fault("t" + kind + ";", -2000);
        }
    }

    // Terms I "MINUTES (2 digits, 1 .. 60)": 01 and 60 are a WAIT, 00, 61 and 99 are not.
    private static void terms1WaitMinutes() {
        taken("w01;", 1);
        taken("w60;", 1);
        fault("w00;", -2000);
        fault("w61;", -2000);
        fault("w99;", -2000);
        Edges.due("MINUTE behind w01", Edges.of("w01;").count(5), 1);
        Edges.due("MINUTE behind w60", Edges.of("w60;").count(5), 60);
    }

    // Terms I "MINUTE above 999": a WAIT till 999 comes, one till 1000 does not.
    private static void terms1MinuteOfWaits() {
        String most = Edges.times("w60;", 16);
        Edges.due("till 999", Edges.tell(new RingAndFinger(), most + "w39;"), 17);
        fault(most + "w40;", -2064);
        fault(most + "w39;w01;", -2068);
        fault(most + "w39;h0;w01;", -2071);
        Edges.due("till 999", Edges.tell(Edges.late("pp100;", 998), "w01;"), 1);
        Edges.asks("w01; at 999", () -> Edges.late("pp100;", 999), x -> Edges.tell(x, "w01;"), -2000);
        Edges.asks("w02; at 998", () -> Edges.late("pp100;", 998), x -> Edges.tell(x, "w02;"), -2000);
    }

    // Terms I "MINUTE above 999": a TRY of each KIND till 999 comes, till 1000 not, though it would go over.
    private static void terms1MinuteOfTries() {
        int[] minutes = {1, 2, 3, 4, 1, 6, 8};
        for (int kind = 0; kind <= 6; kind++) {
            String text = "t" + kind + ";";
            int last = 999 - minutes[kind];
            RingAndFinger x = Edges.late("pp100;", last);
            Edges.due(text + " at " + last, Edges.tell(x, text), 1);
            Edges.due("MINUTE", x.count(5), 999);
            Edges.asks(text + " a minute later", () -> Edges.late("pp100;", last + 1), y -> Edges.tell(y, text), -2000);
        }
    }

    // Terms I "(6 at most": the sixth PART comes, the seventh finds "no room for more", in one hand or by two.
    private static void terms1SixParts() {
        RingAndFinger x = new RingAndFinger();
        Edges.due("six PARTS", Edges.tell(x, Edges.times("pp100;", 6)), 6);
        Edges.due("how many", x.count(0), 6);
        Edges.due("a seventh", Edges.tell(x, "pp100;"), -2000);
        Edges.due("how many still", x.count(0), 6);
        Edges.due("seven", Edges.tell(new RingAndFinger(), Edges.times("pp100;", 7)), -2036);
        taken(Edges.times("pp100;", 4), 4);
        fault(Edges.times("pp100;", 5), -2024);
        Edges.asks("a seventh, full", EdgeHandTest::six, y -> Edges.tell(y, "pp240;"), -2000);
    }

    // Terms I "a TRY .. with the RING OFF": none in front, of no PARTS or behind all of them.
    private static void terms1TryWhenOff() {
        Edges.asks("t0; without PARTS", RingAndFinger::new, x -> Edges.tell(x, "t0;"), -2000);
        Edges.asks("t0;pp100;", RingAndFinger::new, x -> Edges.tell(x, "t0;pp100;"), -2000);
        Edges.asks("a TRY too many", RingAndFinger::new, x -> Edges.tell(x, "pp100;t0;t0;"), -2009);
        Edges.asks("t0; OFF", () -> Edges.of("pp100;t0;"), x -> Edges.tell(x, "t0;"), -2000);
        Edges.due("a TRY at the last PART", Edges.tell(Edges.of("pp100;pp100;t0;"), "t0;"), 1);
        fault("t0;t0;t0;", -2006);
        taken("t0;t0;", 2);
    }

    // Terms I "a PART more with the RING OFF behind some PARTS": behind none it comes, in front of the last too.
    private static void terms1PartWhenOff() {
        Edges.due("the first PART", Edges.tell(new RingAndFinger(), "pp100;"), 1);
        Edges.asks("a PART more, OFF", () -> Edges.of("pp100;t0;"), x -> Edges.tell(x, "pp100;"), -2000);
        Edges.due("a PART more, in front of the last", Edges.tell(Edges.of("pp100;pp100;t0;"), "pp100;"), 1);
        Edges.asks("a PART more in the text", RingAndFinger::new, x -> Edges.tell(x, "pp100;t0;s01;pp100;"), -2013);
        RingAndFinger back = Edges.of("pp100;t0;");
        back.back();
        Edges.due("a PART more, back again", Edges.tell(back, "pp100;"), 1);
        fault("t0;t0;pp100;", -2006);
        taken("t0;pp100;", 2);
    }

    // Terms I "behind all ahead of it in the text": what stands ahead counts as if it had come.
    private static void terms1BehindAllAhead() {
        Edges.due("not past at 100, past at 150, OFF", Edges.tell(Edges.of("pp148;"), "r1004;t0;r1504;s00;t0;pp100;"), -2022);
        Edges.due("not past at 100, nor at 149", Edges.tell(Edges.of("pp148;"), "r1004;t0;r1494;t0;pp100;"), 5);
        Edges.due("SWELL 2 more by the first TRY", Edges.tell(Edges.of("pp148;"), "r1474;t0;r1504;t0;t0;"), -2018);
        Edges.due("PART told in the same text", Edges.tell(new RingAndFinger(), "pp100;t0;"), 2);
        Edges.due("MINUTE by a TRY ahead", Edges.tell(Edges.late("pp240;", 991), "t6;w01;"), -2003);
    }

    // Terms I "Without FAULT all of it comes".
    private static void terms1AllOfItComes() {
        RingAndFinger x = new RingAndFinger();
        Edges.due("hand", Edges.tell(x, "pp240;pk000;r2509;s30;c20;h9;t5;w60;t6;"), 9);
        Edges.state("behind it", x, 2, 2, 2, 8, 0, 74, 3, 250, 0, 0, 9);
        Edges.due("BROAD", x.count(17), 9);
        Edges.due("part(0, 1)", x.part(0, 1), 240);
        Edges.due("part(1, 0)", x.part(1, 0), 1);
        Edges.due("part(1, 1)", x.part(1, 1), 0);
    }

    // Terms I "with one nothing": a FAULT in the last STATEMENT of as many as change each thing.
    private static void terms1WithFaultNothing() {
        fault("pj200;r2509;s30;c20;h9;t5;w60;s31;", -2030);
        fault("pj200;r2509;s30;c20;h9;t5;w60;s3", -1032);
        fault("t0;t0;w01;t0;", -2010);
    }

    // Promise 4 "-1": PARTS 0 up to one less than there are, no other, however far.
    private static void promise4NoSuchPart() {
        RingAndFinger x = six();
        for (int p = 0; p < 6; p++) {
            Edges.due("part(" + p + ", 0)", x.part(p, 0), p);
        }
        Edges.refused("part(6, 0)", EdgeHandTest::six, y -> y.part(6, 0), -1);
        Edges.refused("part(2, 0) of two", EdgeHandTest::two, y -> y.part(2, 0), -1);
        Edges.due("part(1, 0) of two", two().part(1, 0), 0);
        for (int far : Edges.FAR_BELOW) {
            Edges.refusedAnywhere("part(" + far + ", 0)", y -> y.part(far, 0), -1);
        }
        for (int far : Edges.FAR_ABOVE) {
            Edges.refusedAnywhere("part(" + far + ", 2)", y -> y.part(far, 2), -1);
        }
    }

    // Promise 4 "-2": what 0 .. 2 are, no other.
    private static void promise4OtherWhat() {
        Edges.asks("part(0, 0)", EdgeHandTest::two, x -> x.part(0, 0), 0);
        Edges.asks("part(0, 1)", EdgeHandTest::two, x -> x.part(0, 1), 150);
        Edges.asks("part(0, 2)", EdgeHandTest::two, x -> x.part(0, 2), 154);
        Edges.refused("part(0, 3)", EdgeHandTest::two, x -> x.part(0, 3), -2);
        for (int far : Edges.FAR_BELOW) {
            Edges.refused("part(0, " + far + ")", EdgeHandTest::two, x -> x.part(0, far), -2);
        }
        for (int far : Edges.FAR_ABOVE) {
            Edges.refused("part(1, " + far + ")", EdgeHandTest::two, x -> x.part(1, far), -2);
        }
    }

    // Promise 4 "-1; -2.": in this order.
    private static void promise4Order() {
        Edges.refused("part(-1, -1)", EdgeHandTest::two, x -> x.part(-1, -1), -1);
        Edges.refused("part(2, 3)", EdgeHandTest::two, x -> x.part(2, 3), -1);
    }

    private static void now(char kind, int thick, int swell, int cold, int heat, int want) {
        RingAndFinger x = Edges.of("p" + kind + String.format("%03d;s%02d;c%02d;h%d;", thick, swell, cold, heat));
        Edges.due(kind + ", THICK " + thick + ", SWELL " + swell + ", COLD " + cold + ", HEAT " + heat, x.part(0, 2), want);
    }

    // Promise 4 "how thick it is NOW"; Terms I "THICK and SWELL less COLD", "0 at least each": just 0, below, the most.
    private static void promise4PlainNow() {
        now('p', 3, 0, 3, 0, 0);
        now('p', 3, 0, 2, 0, 1);
        now('p', 3, 0, 4, 0, 0);
        now('p', 0, 0, 20, 9, 0);
        now('p', 240, 30, 0, 9, 270);
    }

    // Terms I "half of SWELL, cut": odd ones lose the half.
    private static void terms1HalfOfSwell() {
        int[][] half = {{0, 0}, {1, 0}, {2, 1}, {3, 1}, {28, 14}, {29, 14}, {30, 15}};
        for (int[] h : half) {
            now('k', 100, h[0], 0, 0, 100 + h[1]);
        }
    }

    // Terms I "less COLD by 4, cut": it is the quarter that is cut, not what is left.
    private static void terms1ColdByFour() {
        int[][] quarter = {{0, 0}, {3, 0}, {4, 1}, {7, 1}, {8, 2}, {19, 4}, {20, 5}};
        for (int[] q : quarter) {
            now('k', 100, 0, q[0], 0, 100 - q[1]);
        }
        now('k', 5, 0, 20, 0, 0);
        now('k', 4, 0, 20, 0, 0);
        now('k', 6, 0, 20, 0, 1);
        now('k', 100, 1, 3, 0, 100);
        now('k', 240, 30, 0, 9, 255);
    }

    // Terms I "as a PLAIN one, and SWELL once more": a PLAIN one is 0 at least already.
    private static void terms1SkinNow() {
        now('s', 0, 1, 2, 0, 1);
        now('s', 0, 0, 20, 0, 0);
        now('s', 10, 5, 15, 0, 5);
        now('s', 10, 5, 16, 0, 5);
        now('s', 10, 5, 14, 0, 6);
        now('s', 240, 30, 0, 9, 300);
    }

    // Terms I "3 more, if SWELL is above 9": not at 9, at 10.
    private static void terms1RollNow() {
        now('r', 100, 9, 0, 0, 118);
        now('r', 100, 10, 0, 0, 123);
        now('r', 100, 8, 0, 0, 116);
        now('r', 0, 10, 20, 0, 13);
        now('r', 0, 9, 20, 0, 9);
        now('r', 0, 0, 20, 9, 0);
        now('r', 240, 30, 0, 9, 303);
    }

    // Terms I "as a KNUCKLE, and HEAT more": from HEAT 0 to 9, a KNUCKLE 0 at least already.
    private static void terms1JointNow() {
        now('j', 100, 30, 0, 0, 115);
        now('j', 100, 30, 0, 9, 124);
        now('j', 0, 0, 20, 9, 9);
        now('j', 0, 0, 20, 0, 0);
        now('j', 4, 0, 20, 3, 3);
        now('j', 240, 30, 0, 9, 264);
    }

    // Terms I "as a JOINT, 10 less", "0 at least each": just 0, 1, below.
    private static void terms1TipNow() {
        now('t', 10, 0, 0, 0, 0);
        now('t', 11, 0, 0, 0, 1);
        now('t', 9, 0, 0, 0, 0);
        now('t', 0, 0, 20, 9, 0);
        now('t', 2, 0, 20, 9, 0);
        now('t', 1, 0, 0, 9, 0);
        now('t', 2, 0, 0, 9, 1);
        now('t', 4, 0, 20, 9, 0);
        now('t', 240, 30, 0, 9, 254);
    }

    public static void main(String[] args) throws ReflectiveOperationException {
        Edges.runAll(EdgeHandTest.class);
    }
}
