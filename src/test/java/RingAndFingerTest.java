/** Each promise of the document: ordinary inputs, the edges that it names, wrong inputs. */
public final class RingAndFingerTest {
    private static int wrong = 0;
    private static int asked = 0;

    private static void due(String call, long got, long want) {
        asked++;
        if (got != want) {
            wrong++;
            System.out.println(call + " answered " + got + ", due is " + want);
        }
    }

    private static int tell(RingAndFinger x, String text) {
        for (int i = 0; i < text.length(); i++) {
            x.letter(text.charAt(i));
        }
        return x.hand();
    }

    private static RingAndFinger of(String text) {
        RingAndFinger x = new RingAndFinger();
        tell(x, text);
        return x;
    }

    private static void rows(RingAndFinger x, int... numbers) {
        for (int v : numbers) {
            x.row(v);
        }
    }

    private static String times(String text, int n) {
        StringBuilder all = new StringBuilder();
        for (int i = 0; i < n; i++) {
            all.append(text);
        }
        return all.toString();
    }

    /** In the order PARTS, in front of which, SWELL, COLD, BLUE, MINUTE, HARM, SIZE, ROW, letters, HEAT. */
    private static void state(String where, RingAndFinger x, int... want) {
        for (int i = 0; i < want.length; i++) {
            due(where + ": count(" + i + ")", x.count(i), want[i]);
        }
    }

    private static void refusals(String where, RingAndFinger x, int... want) {
        for (int i = 0; i < 6; i++) {
            due(where + ": count(" + (11 + i) + ")", x.count(11 + i), want[i]);
        }
    }

    private static void promise1New() {
        RingAndFinger x = new RingAndFinger();
        state("new", x, 0, 0, 0, 0, 0, 0, 0, 180, 0, 0, 3);
        refusals("new", x, 0, 0, 0, 0, 0, 0);
        due("new: BROAD", x.count(17), 4);
        due("new: part(0, 0)", x.part(0, 0), -1);
        due("new: holds()", x.holds(), -9999);
    }

    private static void promise2Letter() {
        RingAndFinger x = new RingAndFinger();
        due("letter(0)", x.letter(0), 1);
        due("letter(255)", x.letter(255), 2);
        due("letter(-1)", x.letter(-1), -4);
        due("letter(256)", x.letter(256), -6);
        due("letters", x.count(9), 2);
        for (int i = 3; i <= 96; i++) {
            due("letter " + i, x.letter('p'), i);
        }
        due("the 97th letter", x.letter('p'), -6);
        due("the 97th letter, below", x.letter(-1), -4);
        due("letters", x.count(9), 96);
        refusals("letter", x, 0, 0, 0, 2, 0, 2);
    }

    private static void fault(String text, int want) {
        RingAndFinger x = of("pp150;pp100;s04;");
        due("hand of " + text, tell(x, text), want);
        state("behind " + text, x, 2, 0, 4, 0, 0, 0, 0, 180, 0, 0, 3);
        refusals("behind " + text, x, 0, 0, 0, 0, 0, 0);
    }

    private static void promise3FormFaults() {
        fault("", -1000);
        fault("x", -1000);
        fault(";", -1000);
        fault("P", -1000);
        fault("pp150", -1005);
        fault("pp150x", -1005);
        fault("pp1500;", -1005);
        fault("p", -1001);
        fault("px150;", -1001);
        fault("pp", -1002);
        fault("ppp50;", -1002);
        fault("pp15;", -1004);
        fault("pp1/0;", -1003);
        fault("pp1:0;", -1003);
        fault("r18041", -1005);
        fault("r180;", -1004);
        fault("s1;", -1002);
        fault("s100;", -1003);
        fault("c1", -1002);
        fault("h;", -1001);
        fault("h12;", -1002);
        fault("t", -1001);
        fault("tt;", -1001);
        fault("w5;", -1002);
        fault("s05;;", -1004);
        fault("s05;c05;x", -1008);
        fault("s31;c", -1005);
        fault(times("h1;", 31) + "h1", -1095);
        fault(times("h1;", 31) + "pp1", -1096);
    }

    private static void promise3SenseFaults() {
        fault("pp241;", -2000);
        fault("s05;pp999;", -2004);
        fault("r0994;", -2000);
        fault("r2514;", -2000);
        fault("r1800;", -2000);
        fault("s31;", -2000);
        fault("s30;c21;", -2004);
        fault("t7;", -2000);
        fault("s01;c01;t9;", -2008);
        fault("w00;", -2000);
        fault("w61;", -2000);
        fault("w60;w99;", -2004);
        fault("t0;t0;t0;", -2006);
        fault("t0;t0;pp100;", -2006);
        fault(times("pp100;", 4) + "s00;pp100;", -2028);
        fault(times("w60;", 16) + "w40;", -2064);
        fault("s30;r1009;" + times("w60;", 16) + "w39;t0;", -2078);
        fault("s31;pp241;", -2000);
        RingAndFinger x = new RingAndFinger();
        due("a try without parts", tell(x, "t0;"), -2000);
        due("a try, parts behind", tell(x, "t0;pp100;"), -2000);
        due("a part, OFF behind the one", tell(x, "pp100;t0;pp100;"), -2009);
        due("no part came", x.count(0), 0);
    }

    private static void promise3Hand() {
        RingAndFinger x = new RingAndFinger();
        due("hand", tell(x, "pp240;pk000;r1007;s30;c20;h9;w10;"), 7);
        state("hand", x, 2, 0, 25, 17, 0, 10, 0, 100, 0, 0, 9);
        due("hand: BROAD", x.count(17), 7);
        due("a hand more", tell(x, "ps100;pr101;pj102;pt103;r2501;s00;c00;h0;"), 8);
        state("a hand more", x, 6, 0, 0, 0, 0, 10, 0, 250, 0, 0, 0);
        due("tries", tell(x, "t0;t1;t2;t3;t4;t5;"), 6);
        state("tries", x, 6, 6, 14, 0, 5, 27, 9, 250, 0, 0, 0);
        due("a try OFF", tell(x, "t0;"), -2000);
        due("the most minutes", tell(new RingAndFinger(), times("w60;", 16) + "w39;"), 17);
        due("a first part behind waits", tell(new RingAndFinger(), "w01;pt000;t6;"), 3);
        due("a try to the last minute",
            tell(of("pp200;r1009;" + times("w60;", 16)), "w38;t0;"), 2);
        due("a try that does not go over", tell(of("pp200;"), "t0;t0;"), 2);
        due("the most letters", tell(new RingAndFinger(), times("s30;", 24)), 24);
    }

    private static void promise4Part() {
        RingAndFinger x = of("pp150;pk151;ps152;pr153;pj154;pt155;s09;c06;h7;");
        int[] thick = {153, 154, 164, 165, 164, 155 + 4 - 1 + 7 - 10};
        for (int p = 0; p < 6; p++) {
            due("part " + p + " KIND", x.part(p, 0), p);
            due("part " + p + " THICK", x.part(p, 1), 150 + p);
        }
        due("p NOW", x.part(0, 2), thick[0]);
        due("k NOW", x.part(1, 2), thick[1]);
        due("s NOW", x.part(2, 2), thick[2]);
        due("r NOW", x.part(3, 2), thick[3]);
        due("j NOW", x.part(4, 2), thick[4]);
        due("t NOW", x.part(5, 2), thick[5]);
        x.set(2, 10);
        due("r NOW above 9", x.part(3, 2), 153 + 20 - 6 + 3);
        x.set(2, 9);
        due("r NOW at 9", x.part(3, 2), 153 + 18 - 6);
        due("part(-1, 0)", x.part(-1, 0), -1);
        due("part(6, 0)", x.part(6, 0), -1);
        due("part(6, 3)", x.part(6, 3), -1);
        due("part(0, -1)", x.part(0, -1), -2);
        due("part(0, 3)", x.part(0, 3), -2);
        refusals("part", x, 3, 2, 0, 0, 0, 0);
        RingAndFinger thin = of("pp010;pk002;pt003;ps000;pr000;pj000;c20;h0;");
        due("p NOW 0 at least", thin.part(0, 2), 0);
        due("k NOW 0 at least", thin.part(1, 2), 0);
        due("t NOW 0 at least", thin.part(2, 2), 0);
        due("s NOW 0 at least", thin.part(3, 2), 0);
        due("r NOW 0 at least", thin.part(4, 2), 0);
        due("j NOW 0 at least", thin.part(5, 2), 0);
    }

    /** Each kind is built on the one it is under when that one has been cut at 0. */
    private static void promise4ThinParts() {
        RingAndFinger x = of("pp000;pk000;ps000;pr000;pj000;pt012;s01;c02;h5;");
        due("p THICK 0, SWELL 1, COLD 2", x.part(0, 2), 0);
        due("k THICK 0, SWELL 1, COLD 2", x.part(1, 2), 0);
        due("s THICK 0, SWELL 1, COLD 2", x.part(2, 2), 1);
        due("r THICK 0, SWELL 1, COLD 2", x.part(3, 2), 1);
        due("j THICK 0, SWELL 1, COLD 2", x.part(4, 2), 5);
        due("t THICK 12, SWELL 1, COLD 2", x.part(5, 2), 7);
        x.set(3, 20);
        due("k THICK 0, COLD 20", x.part(1, 2), 0);
        due("s THICK 0, COLD 20", x.part(2, 2), 1);
        due("j THICK 0, COLD 20", x.part(4, 2), 5);
        due("t THICK 12, COLD 20", x.part(5, 2), 2);
        x.set(4, 9);
        due("j THICK 0, COLD 20, HEAT 9", x.part(4, 2), 9);
        due("t THICK 12, COLD 20, HEAT 9", x.part(5, 2), 6);
        x.set(2, 10);
        due("p THICK 0, SWELL 10, COLD 20", x.part(0, 2), 0);
        due("s THICK 0, SWELL 10, COLD 20", x.part(2, 2), 10);
        due("r THICK 0, SWELL 10, COLD 20", x.part(3, 2), 13);
        due("j THICK 0, SWELL 10, COLD 20", x.part(4, 2), 9);
        RingAndFinger edge = of("ps001;pr001;pj004;s09;c10;h0;");
        due("s just 0 as a p", edge.part(0, 2), 9);
        due("r just 0 as a p", edge.part(1, 2), 9);
        due("j, knuckle 6", edge.part(2, 2), 6);
        edge.set(3, 9);
        due("s, 1 as a p", edge.part(0, 2), 10);
        edge.set(3, 11);
        due("s, below 0 as a p", edge.part(0, 2), 9);
        due("holds() of a thin s", edge.holds(), 9 - 180);
    }

    private static void setting(RingAndFinger x, int what, int first, int least, int greatest, int counted) {
        due("set(" + what + ") first", x.set(what, least), first);
        due("set(" + what + ") below", x.set(what, least - 1), -4);
        due("set(" + what + ") above", x.set(what, greatest + 1), -6);
        due("set(" + what + ") least", x.set(what, greatest), least);
        due("set(" + what + ") counted", x.count(counted), greatest);
    }

    private static void promise5Set() {
        RingAndFinger x = new RingAndFinger();
        setting(x, 0, 180, 100, 250, 7);
        setting(x, 1, 4, 1, 9, 17);
        setting(x, 2, 0, 0, 30, 2);
        setting(x, 3, 0, 0, 20, 3);
        setting(x, 4, 3, 0, 9, 10);
        due("set(-1, 5)", x.set(-1, 5), -2);
        due("set(5, -1)", x.set(5, -1), -2);
        due("set(0, least int)", x.set(0, Integer.MIN_VALUE), -4);
        refusals("set", x, 0, 2, 0, 6, 0, 5);
    }

    private static void promise6Back() {
        RingAndFinger x = of("pp100;pp100;t0;");
        due("back()", x.back(), 1);
        due("back() again", x.back(), 0);
        tell(x, "t0;t0;");
        due("OFF", x.holds(), -9999);
        due("back() OFF", x.back(), 2);
        state("back", x, 2, 0, 6, 0, 0, 3, 3, 180, 0, 0, 3);
        due("back() without parts", new RingAndFinger().back(), 0);
    }

    private static void promise7Kind() {
        RingAndFinger x = new RingAndFinger();
        int[][] kinds = {{0, 1, 2, 1}, {4, 2, 2, 1}, {7, 3, 3, 1}, {5, 4, 1, 1}, {6, 1, 5, 3}, {15, 6, 1, 2},
            {4, 8, 2, 1}};
        for (int kind = 0; kind < 7; kind++) {
            for (int what = 0; what < 4; what++) {
                due("kind(" + kind + ", " + what + ")", x.kind(kind, what), kinds[kind][what]);
            }
        }
        x.set(1, 1);
        due("WALKED, BROAD 1", x.kind(3, 0), 8);
        x.set(1, 9);
        due("WALKED, BROAD 9", x.kind(3, 0), 0);
        due("THREADED, BROAD 9", x.kind(5, 0), 15);
        due("kind(-1, 0)", x.kind(-1, 0), -2);
        due("kind(7, 0)", x.kind(7, 0), -2);
        due("kind(0, -1)", x.kind(0, -1), -2);
        due("kind(0, 4)", x.kind(0, 4), -2);
        refusals("kind", x, 0, 4, 0, 0, 0, 0);
    }

    private static void oneTry(int kind, String size, int passed, int... state) {
        RingAndFinger x = of("pp180;pp180;r" + size + "4;");
        due("tries(" + kind + ") at " + size, x.tries(kind), passed);
        state("tries(" + kind + ") at " + size, x, state);
    }

    private static void promise8Tries() {
        oneTry(0, "180", 1, 2, 1, 2, 0, 0, 1, 1, 180);
        oneTry(0, "179", 0, 2, 0, 2, 0, 0, 1, 1, 179);
        oneTry(1, "176", 1, 2, 1, 2, 0, 0, 2, 1, 176);
        oneTry(1, "175", 0, 2, 0, 2, 0, 0, 2, 1, 175);
        oneTry(2, "173", 1, 2, 1, 3, 0, 0, 3, 1, 173);
        oneTry(2, "172", 0, 2, 0, 3, 0, 0, 3, 1, 172);
        oneTry(3, "175", 1, 2, 1, 1, 0, 0, 4, 1, 175);
        oneTry(3, "174", 0, 2, 0, 1, 0, 0, 4, 1, 174);
        oneTry(4, "174", 1, 2, 1, 5, 0, 0, 1, 3, 174);
        oneTry(4, "173", 0, 2, 0, 5, 0, 0, 1, 3, 173);
        oneTry(5, "165", 1, 2, 1, 1, 0, 5, 6, 2, 165);
        oneTry(5, "164", 0, 2, 0, 1, 0, 5, 6, 2, 164);
        oneTry(6, "168", 1, 2, 1, 2, 8, 0, 8, 1, 168);
        oneTry(6, "167", 0, 2, 0, 2, 8, 0, 8, 1, 167);
        RingAndFinger x = of("pp240;r1009;s29;c13;");
        due("tries(6) not past", x.tries(6), 0);
        state("the most of SWELL and COLD", x, 1, 0, 30, 20, 0, 8, 1);
        for (int i = 0; i < 20; i++) {
            x.tries(5);
        }
        state("the most of BLUE", x, 1, 0, 30, 20, 99, 128, 41);
        due("tries(-1)", x.tries(-1), -2);
        due("tries(7)", x.tries(7), -2);
        RingAndFinger off = of("pp100;t0;");
        due("tries(0) OFF", off.tries(0), -3);
        due("tries(7) OFF", off.tries(7), -2);
        RingAndFinger late = of("pp200;r1004;" + times("w60;", 16) + "w34;");
        due("tries(5) above 999", late.tries(5), -6);
        due("tries(3) to 998", late.tries(3), 0);
        due("tries(1) above 999", late.tries(1), -6);
        due("tries(4) to 999", late.tries(4), 0);
        due("tries(0) above 999", late.tries(0), -6);
        state("late", late, 1, 0, 6, 0, 0, 999, 4, 100);
        refusals("late", late, 0, 0, 0, 0, 0, 3);
    }

    private static void promise9Pause() {
        RingAndFinger x = of("pp240;r1004;s20;c20;t5;t5;");
        state("ahead of pause", x, 1, 0, 22, 20, 10, 12, 4);
        due("pause(1)", x.pause(1), 13);
        state("pause(1)", x, 1, 0, 22, 20, 9, 13, 4);
        due("pause(5)", x.pause(5), 18);
        state("pause(5)", x, 1, 0, 20, 19, 4, 18, 4);
        due("pause(60)", x.pause(60), 78);
        state("pause(60)", x, 1, 0, 0, 0, 0, 78, 4);
        due("pause(0)", x.pause(0), -4);
        due("pause(61)", x.pause(61), -6);
        for (int i = 0; i < 15; i++) {
            x.pause(60);
        }
        due("pause(22) above 999", x.pause(22), -6);
        due("pause(21)", x.pause(21), 999);
        due("pause(1) above 999", x.pause(1), -6);
        due("pause(greatest int)", x.pause(Integer.MAX_VALUE), -6);
        refusals("pause", x, 0, 0, 0, 1, 0, 4);
    }

    private static void promise10Would() {
        RingAndFinger x = of("pp180;r1724;");
        int[] would = {0, 0, 0, 0, 0, 1, 1};
        for (int kind = 0; kind < 7; kind++) {
            due("would(" + kind + ")", x.would(kind), would[kind]);
        }
        state("would", x, 1, 0, 0, 0, 0, 0, 0, 172);
        x.set(0, 180);
        due("would(0) just", x.would(0), 1);
        x.set(0, 179);
        due("would(0) just not", x.would(0), 0);
        due("would(-1)", x.would(-1), -2);
        due("would(7)", x.would(7), -2);
        x.tries(1);
        due("would(0) OFF", x.would(0), -3);
        due("would(7) OFF", x.would(7), -2);
    }

    private static void promise11Holds() {
        RingAndFinger x = of("ps170;pp190;s04;");
        due("holds()", x.holds(), -2);
        x.tries(0);
        due("holds() of the next", x.holds(), 190 + 6 - 180);
        x.set(0, 196);
        due("holds() 0", x.holds(), 0);
        x.tries(0);
        due("holds() OFF", x.holds(), -9999);
        refusals("holds", x, 0, 0, 0, 0, 0, 0);
    }

    private static void promise12Goes() {
        RingAndFinger x = of("pp190;");
        due("goes(0)", x.goes(0), -9);
        due("goes(5)", x.goes(5), 0);
        due("goes(6)", x.goes(6), 0);
        x.set(0, 176);
        due("goes(6): 190-8, 192-16, 194-20", x.goes(6), 1);
        x.set(0, 171);
        due("goes(6): the third at 174", x.goes(6), 2);
        x.set(0, 169);
        due("goes(6) never", x.goes(6), -9);
        state("goes", x, 1, 0, 0, 0, 0, 0, 0, 169);
        due("goes(-1)", x.goes(-1), -2);
        due("goes(7)", x.goes(7), -2);
        due("goes(0) OFF", new RingAndFinger().goes(0), -3);
        due("goes(7) OFF", new RingAndFinger().goes(7), -2);
    }

    private static void promise13Stop() {
        RingAndFinger x = of("pp190;");
        int[][] sizes = {{190, 0}, {189, 1}, {186, 1}, {185, 2}, {183, 2}, {182, 5}, {175, 5}, {174, 6}, {170, 6},
            {169, -9}};
        for (int[] row : sizes) {
            x.set(0, row[0]);
            due("stop() at " + row[0], x.stop(), row[1]);
        }
        x.set(1, 1);
        x.set(0, 182);
        due("stop() BROAD 1", x.stop(), 3);
        RingAndFinger off = new RingAndFinger();
        due("stop() OFF", off.stop(), -3);
        refusals("stop", off, 0, 0, 1, 0, 0, 0);
    }

    private static void promise14Waited() {
        RingAndFinger x = of("pp180;s10;");
        due("waited(0)", x.waited(0), 20);
        due("waited(4)", x.waited(4), 8);
        due("waited(5)", x.waited(5), 0);
        due("waited(6)", x.waited(6), 0);
        x.set(0, 179);
        due("waited(0) never", x.waited(0), -9);
        x.set(2, 30);
        x.set(0, 180);
        due("waited(0) the longest", x.waited(0), 60);
        x.set(3, 20);
        due("waited(0) with COLD that goes", x.waited(0), 56);
        RingAndFinger skin = of("ps180;s10;c06;r1844;");
        due("waited(0): 200-6, 2 a minute by two", skin.waited(0), 14);
        state("waited", skin, 1, 0, 10, 6, 0, 0, 0, 184);
        due("waited(-1)", x.waited(-1), -2);
        due("waited(7)", x.waited(7), -2);
        due("waited(0) OFF", new RingAndFinger().waited(0), -3);
        due("waited(7) OFF", new RingAndFinger().waited(7), -2);
    }

    private static void ways(String text, int minutes, int firstSoon, int harm, int firstGentle) {
        RingAndFinger x = of(text);
        due("soonest(0) of " + text, x.soonest(0), minutes);
        due("soonest(1) of " + text, x.soonest(1), firstSoon);
        due("gentlest(0) of " + text, x.gentlest(0), harm);
        due("gentlest(1) of " + text, x.gentlest(1), firstGentle);
    }

    private static void promises15And16Ways() {
        ways("pp180;", 1, 0, 1, 0);
        ways("pp184;", 1, 4, 1, 1);
        ways("pp187;", 3, 2, 1, 2);
        ways("pp195;", 6, 5, 2, 5);
        ways("pp192;", 6, 5, 1, 6);
        ways("pp220;", -9, -9, -9, -9);
        ways("pp000;", 1, 0, 1, 0);
        ways("pp180;pp180;", 2, 0, 2, 0);
        ways("pp180;s30;", 22, 6, 1, 7);
        ways("pp180;pp180;pp180;", 4, 0, 3, 0);
        ways("pp193;pp192;pp190;", 18, 6, 4, 5);
        ways("pp195;pp194;pp193;", 18, 6, 4, 6);
        ways("pr180;s11;", 16, 7, 1, 7);
        ways("pj185;pt195;h9;c20;r1809;", 12, 5, 4, 5);
        ways("pk190;r1801;s06;", 6, 5, 2, 5);
        ways("pt176;pt198;ps208;pk186;pr184;s30;", 120, 7, 8, 7);
        ways("pk194;pp206;pr205;pk175;ps192;s25;", -9, -9, 10, 7);
        ways("pp100;t0;", 0, -9, 0, -9);
        RingAndFinger x = new RingAndFinger();
        due("soonest(-1)", x.soonest(-1), -2);
        due("soonest(2)", x.soonest(2), -2);
        due("gentlest(-1)", x.gentlest(-1), -2);
        due("gentlest(2)", x.gentlest(2), -2);
        refusals("ways", x, 0, 4, 0, 0, 0, 0);
    }

    private static void promise17Danger() {
        RingAndFinger x = of("pp240;r1004;");
        int[] danger = {0, 0, 1, 6, 11, 16, 21, 26, 31, 36};
        for (int n = 0; n <= 9; n++) {
            due("danger(" + n + ")", x.danger(n), danger[n]);
        }
        for (int i = 0; i < 18; i++) {
            x.tries(5);
        }
        due("danger(0) at BLUE 90", x.danger(0), 81);
        due("danger(1) at BLUE 90", x.danger(1), 86);
        due("danger(2) at BLUE 90", x.danger(2), 90);
        due("danger(9) at BLUE 90", x.danger(9), 90);
        due("BLUE stays", x.count(4), 90);
        due("danger(-1)", x.danger(-1), -4);
        due("danger(10)", x.danger(10), -6);
    }

    private static void promises18And19Months() {
        RingAndFinger x = of("pp180;s30;c20;h9;");
        rows(x, 0, 1, 2, 3, 4, 5, 6, 7, 8, 9, 3);
        due("sticks(180) of 11", x.sticks(180), -3);
        due("falls(180) of 11", x.falls(180), -3);
        rows(x, 3);
        // The part is 180 and 3 times HEAT less 9 thick: 171, 174 .. 198, and 180 twice more.
        due("sticks(180)", x.sticks(180), 0x3e0);
        due("sticks(193)", x.sticks(193), 0x200);
        due("sticks(194)", x.sticks(194), 0);
        due("sticks(100)", x.sticks(100), 4095);
        due("falls(180)", x.falls(180), 0);
        due("falls(181)", x.falls(181), 1);
        due("falls(184)", x.falls(184), 3);
        due("falls(190)", x.falls(190), 0xc0f);
        due("falls(250)", x.falls(250), 4095);
        due("the ROW stays", x.count(8), 12);
        state("months", x, 1, 0, 30, 20, 0, 0, 0, 180, 12, 0, 9);
        due("sticks(99)", x.sticks(99), -4);
        due("sticks(251)", x.sticks(251), -6);
        due("falls(99)", x.falls(99), -4);
        due("falls(251)", x.falls(251), -6);
        RingAndFinger joints = of("pj100;pr100;");
        rows(joints, 9, 5, 4, 0, 0, 0, 0, 0, 0, 0, 0, 0);
        // HEAT 9: joint 118, roll 139; 5: 109 and 5 - 1, roll 119; 4: roll 111; 0: joint 98, roll 91.
        due("sticks, any part", joints.sticks(110), 0x003);
        due("falls, all parts", joints.falls(108), 0xff8);
        due("falls, not all parts", joints.falls(107), 0);
        RingAndFinger none = new RingAndFinger();
        rows(none, 0, 0, 0, 0, 0, 0, 0, 0, 0, 0, 0, 0);
        due("sticks without parts", none.sticks(100), 0);
        due("falls without parts", none.falls(100), 4095);
        RingAndFinger empty = new RingAndFinger();
        due("sticks(99), no ROW", empty.sticks(99), -4);
        due("falls(251), no ROW", empty.falls(251), -6);
        refusals("months", empty, 0, 0, 0, 1, 0, 1);
    }

    private static RingAndFinger yearly() {
        RingAndFinger x = of("pp180;");
        rows(x, 0, 0, 0, 0, 0, 0, 9, 9, 9, 9, 9, 9);
        return x;
    }

    private static void promise20Year() {
        RingAndFinger x = yearly();
        // Six months at 171, six at 198: below 167 all stick, from 181 six fall, below 194 six stick.
        due("year(1, 1, 0)", x.year(1, 1, 0), 167);
        due("year(1, 1, 1)", x.year(1, 1, 1), 6);
        due("year(2, 1, 0)", x.year(2, 1, 0), 194);
        due("year(2, 1, 1)", x.year(2, 1, 1), 6);
        due("year(1, 2, 0)", x.year(1, 2, 0), 167);
        due("year(0, 9, 0)", x.year(0, 9, 0), 100);
        due("year(9, 0, 0)", x.year(9, 0, 0), 194);
        due("year(99, 99, 1)", x.year(99, 99, 1), 594);
        due("the ROW stays", x.count(8), 12);
        due("year(-1, 100, 2)", x.year(-1, 100, 2), -4);
        due("year(0, -1, 0)", x.year(0, -1, 0), -4);
        due("year(100, 0, 2)", x.year(100, 0, 2), -6);
        due("year(0, 100, 0)", x.year(0, 100, 0), -6);
        due("year(0, 0, 2)", x.year(0, 0, 2), -2);
        due("year(0, 0, -1)", x.year(0, 0, -1), -2);
        x.judge();
        due("year(0, 0, 2), no ROW", x.year(0, 0, 2), -2);
        due("year(0, 0, 0), no ROW", x.year(0, 0, 0), -3);
        refusals("year", x, 0, 3, 1, 2, 0, 2);
        RingAndFinger wide = of("pp236;");
        rows(wide, 9, 9, 9, 9, 9, 9, 9, 9, 9, 9, 9, 0);
        due("year(1, 0, 0) the greatest", wide.year(1, 0, 0), 250);
        due("year(1, 0, 1) the greatest", wide.year(1, 0, 1), 0);
        due("year(0, 1, 0) the least", wide.year(0, 1, 0), 100);
        RingAndFinger narrow = of("pp087;");
        rows(narrow, 9, 9, 9, 9, 9, 9, 9, 9, 9, 9, 9, 0);
        due("year(1, 0, 0) the second", narrow.year(1, 0, 0), 101);
    }

    private static void promise21Two() {
        RingAndFinger x = yearly();
        due("two(0, 6, 1, 1, 0)", x.two(0, 6, 1, 1, 0), 167);
        due("two(0, 6, 1, 1, 1)", x.two(0, 6, 1, 1, 1), 194);
        due("two(0, 6, 1, 1, 2)", x.two(0, 6, 1, 1, 2), 0);
        due("two(6, 12, 1, 1, 0)", x.two(6, 12, 1, 1, 0), 194);
        due("two(5, 12, 2, 1, 0)", x.two(5, 12, 2, 1, 0), 194);
        due("two(5, 12, 2, 1, 1)", x.two(5, 12, 2, 1, 1), 167);
        due("two(5, 12, 2, 1, 2)", x.two(5, 12, 2, 1, 2), 1);
        due("two(4, 4, 2, 1, 0), no MONTHS", x.two(4, 4, 2, 1, 0), 100);
        due("two(4, 4, 2, 1, 1), all else", x.two(4, 4, 2, 1, 1), 194);
        due("two(0, 12, 2, 1, 1), no else", x.two(0, 12, 2, 1, 1), 100);
        due("two(12, 12, 2, 1, 2)", x.two(12, 12, 2, 1, 2), 6);
        due("the ROW stays", x.count(8), 12);
        due("two(-1, 13, 0, 0, 3)", x.two(-1, 13, 0, 0, 3), -4);
        due("two(0, -1, 0, 0, 0)", x.two(0, -1, 0, 0, 0), -4);
        due("two(0, 0, -1, 0, 0)", x.two(0, 0, -1, 0, 0), -4);
        due("two(0, 0, 100, -1, 0)", x.two(0, 0, 100, -1, 0), -4);
        due("two(0, 13, 0, 0, 3)", x.two(0, 13, 0, 0, 3), -6);
        due("two(5, 4, -1, 0, 0)", x.two(5, 4, -1, 0, 0), -4);
        due("two(13, 13, 0, 0, 0)", x.two(13, 13, 0, 0, 0), -6);
        due("two(5, 4, 0, 0, 3)", x.two(5, 4, 0, 0, 3), -6);
        due("two(0, 0, 100, 0, 0)", x.two(0, 0, 100, 0, 0), -6);
        due("two(0, 0, 0, 100, 0)", x.two(0, 0, 0, 100, 0), -6);
        due("two(0, 0, 0, 0, -1)", x.two(0, 0, 0, 0, -1), -2);
        x.judge();
        due("two(0, 0, 0, 0, 3), no ROW", x.two(0, 0, 0, 0, 3), -2);
        due("two(0, 0, 0, 0, 0), no ROW", x.two(0, 0, 0, 0, 0), -3);
        refusals("two", x, 0, 2, 1, 5, 0, 5);
    }

    private static void promise22Worth() {
        RingAndFinger x = yearly();
        due("worth(0, 6, 1, 1)", x.worth(0, 6, 1, 1), 6);
        due("worth(0, 6, 3, 1)", x.worth(0, 6, 3, 1), 6);
        due("worth(0, 6, 3, 5)", x.worth(0, 6, 3, 5), 18);
        due("worth(5, 12, 2, 1)", x.worth(5, 12, 2, 1), 5);
        due("worth(0, 12, 9, 9)", x.worth(0, 12, 9, 9), 0);
        due("worth(3, 3, 9, 9)", x.worth(3, 3, 9, 9), 0);
        due("worth(0, 6, 0, 9)", x.worth(0, 6, 0, 9), 0);
        due("worth(-1, 0, 100, 0)", x.worth(-1, 0, 100, 0), 1000000004);
        due("worth(0, 0, 0, -1)", x.worth(0, 0, 0, -1), 1000000004);
        due("worth(0, 13, 0, 0)", x.worth(0, 13, 0, 0), 1000000006);
        due("worth(1, 0, 0, 0)", x.worth(1, 0, 0, 0), 1000000006);
        due("worth(0, 0, 0, 100)", x.worth(0, 0, 0, 100), 1000000006);
        due("the ROW stays", x.count(8), 12);
        x.judge();
        due("worth(0, 6, 1, 1), no ROW", x.worth(0, 6, 1, 1), 1000000003);
        refusals("worth", x, 0, 0, 1, 2, 0, 3);
    }

    private static void promise23Went() {
        RingAndFinger x = of("pp170;ps160;c02;");
        // The skin is 158 and SWELL twice: to 180 SWELL 11; the plain one 168 and SWELL: to 180 SWELL 12.
        due("went(0, 0)", x.went(0, 0), 12);
        due("went(0, 1)", x.went(0, 1), 11);
        due("went(1, 1)", x.went(1, 1), 13);
        due("went(5, 1)", x.went(5, 1), 18);
        due("went(6, 1), COLD as it is", x.went(6, 1), 13);
        x.set(1, 1);
        due("went(3, 1)", x.went(3, 1), 15);
        x.set(0, 250);
        due("went(5, 0) all", x.went(5, 0), 31);
        due("went(5, 1) all", x.went(5, 1), 30);
        x.set(0, 167);
        due("went(0, 0) none", x.went(0, 0), 0);
        due("went(0, 1) none", x.went(0, 1), -9);
        x.set(0, 168);
        due("went(0, 0) one", x.went(0, 0), 1);
        due("went(0, 1) one", x.went(0, 1), 0);
        state("went", x, 2, 0, 0, 2, 0, 0, 0, 168);
        due("went(-1, 0)", x.went(-1, 0), -2);
        due("went(7, 0)", x.went(7, 0), -2);
        due("went(0, -1)", x.went(0, -1), -2);
        due("went(0, 2)", x.went(0, 2), -2);
        refusals("went", x, 0, 4, 0, 0, 0, 0);
    }

    private static void promise24Feel() {
        RingAndFinger x = of("pp200;s04;");
        due("feel(0) of nothing", x.feel(0), 0);
        due("feel(1) of nothing", x.feel(1), 240);
        rows(x, 0, 0);
        due("feel(0): not over at 4", x.feel(0), 177);
        due("feel(1): not over at 4", x.feel(1), 240);
        rows(x, 4, 1);
        due("feel(1): over by 6 at 6", x.feel(1), 180);
        rows(x, 6, 1);
        due("feel(1): cooled at 11", x.feel(1), 180);
        rows(x, 1, 0);
        due("feel(0): 13, colder by 8", x.feel(0), 180);
        due("feel(1): 13, colder by 8", x.feel(1), 180);
        rows(x, 0, 1);
        due("feel(0) of what can't be", x.feel(0), -9);
        due("feel(1) of what can't be", x.feel(1), -9);
        due("the ROW stays", x.count(8), 10);
        state("feel", x, 1, 0, 4, 0, 0, 0, 0, 180, 10);
        due("feel(-1)", x.feel(-1), -2);
        due("feel(2)", x.feel(2), -2);
        rows(x, 0);
        due("feel(0), no twos", x.feel(0), -3);
        due("feel(2), no twos", x.feel(2), -2);
        x.judge();
        rows(x, 7, 0);
        due("feel(0), no KIND", x.feel(0), -3);
        x.judge();
        rows(x, 6, 2);
        due("feel(0), neither 1 nor 0", x.feel(0), -3);
        due("feel(0) OFF", new RingAndFinger().feel(0), -3);
        refusals("feel", x, 0, 3, 3, 0, 0, 0);
        RingAndFinger thin = of("pp000;r1004;s30;");
        rows(thin, 0, 0);
        due("feel(0): not over at 30", thin.feel(0), 71);
        RingAndFinger tip = of("pp100;pt150;h4;t0;");
        due("in front of the tip", tip.count(1), 1);
        // THICK less 5 is not over 180 by a TRY, THICK less 4 goes over 187 by a TURNED one.
        rows(tip, 0, 0, 2, 1);
        due("feel(0) of the tip", tip.feel(0), 186);
        due("feel(1) of the tip", tip.feel(1), 191);
    }

    private static void promise25Row() {
        RingAndFinger x = new RingAndFinger();
        due("row(-1)", x.row(-1), -4);
        due("row(10)", x.row(10), -6);
        for (int i = 0; i < 12; i++) {
            due("row " + i, x.row(i % 10), i + 1);
        }
        due("row(0), the 13th", x.row(0), -6);
        due("row(-1), the 13th", x.row(-1), -4);
        due("ROW", x.count(8), 12);
        refusals("row", x, 0, 0, 0, 2, 0, 2);
    }

    private static void promise26Judge() {
        RingAndFinger x = of("pp180;pp183;s02;");
        rows(x, 0, 7, 0, 9, 8, 2, 5, 0);
        due("judge()", x.judge(), 6);
        due("the ROW has none", x.count(8), 0);
        state("judge", x, 2, 0, 2, 0, 0, 0, 0, 180, 0);
        rows(x, 7, 0, 0);
        due("judge() not OFF", x.judge(), -9);
        due("the ROW has none", x.count(8), 0);
        due("judge() of nothing", x.judge(), -9);
        rows(x, 1, 2);
        due("judge() at once", x.judge(), 1);
        RingAndFinger off = new RingAndFinger();
        rows(off, 0, 1, 2);
        due("judge() OFF", off.judge(), -9);
        due("the ROW has none, OFF", off.count(8), 0);
        RingAndFinger wait = of("pp180;s12;");
        rows(wait, 7, 7, 7, 7, 7, 7, 0);
        due("judge() behind six waits", wait.judge(), 6);
        rows(wait, 7, 7, 7, 7, 7, 0);
        due("judge() behind five waits", wait.judge(), -9);
        refusals("judge", wait, 0, 0, 0, 0, 0, 0);
    }

    private static int draw(int[] seed, int below) {
        seed[0] = seed[0] * 1664525 + 1013904223;
        return (seed[0] & 0x7fffffff) / 256 % below;
    }

    private static int never(int n, int z) {
        int[] harms = {1, 1, 1, 1, 3, 2};
        int[] seed = {z};
        int harm = 0;
        for (int i = 0; i < n; i++) {
            draw(seed, 31);
            for (int k = 0; k < 12; k++) {
                harm += harms[draw(seed, 6)];
            }
        }
        return harm;
    }

    private static void promise27Lots() {
        RingAndFinger x = of("pp240;r1004;t4;t4;");
        due("lots(1, 0)", x.lots(1, 0), never(1, 0));
        due("lots(20, -77)", x.lots(20, -77), never(20, -77));
        due("lots(3, least int)", x.lots(3, Integer.MIN_VALUE), never(3, Integer.MIN_VALUE));
        state("lots", x, 1, 0, 10, 0, 0, 2, 6, 100);
        due("lots(0, 5)", x.lots(0, 5), -4);
        due("lots(21, 5)", x.lots(21, 5), -6);
        due("lots(5, 5) OFF", of("pp100;t4;").lots(5, 5), 0);
        RingAndFinger easy = of("pp100;");
        int[] seed = {9};
        int harm = 0;
        for (int i = 0; i < 6; i++) {
            draw(seed, 31);
            harm += new int[] {1, 1, 1, 1, 3, 2}[draw(seed, 6)];
        }
        due("lots(6, 9), one try an evening", easy.lots(6, 9), harm);
    }

    private static void promises28And29Image() {
        RingAndFinger x = of("pp240;pk150;r1503;s05;c06;h7;t5;");
        due("on() without", x.on(), -3);
        rows(x, 1, 2, 3);
        x.letter('p');
        due("image()", x.image(), 6);
        state("image", x, 2, 0, 6, 6, 5, 6, 2, 150, 3, 1, 7);
        x.row(4);
        x.letter('p');
        tell(x, "pj200;");
        tell(x, "ps201;r2408;s30;c00;h0;t0;w03;");
        state("ahead of on", x, 3, 0, 29, 0, 2, 10, 3, 240, 4, 0, 0);
        due("on()", x.on(), 6);
        state("on", x, 2, 0, 6, 6, 5, 6, 2, 150, 4, 0, 7);
        due("on: BROAD", x.count(17), 3);
        due("on: part(1, 0)", x.part(1, 0), 1);
        due("on: part(1, 1)", x.part(1, 1), 150);
        due("on: part(2, 0)", x.part(2, 0), -1);
        refusals("on", x, 1, 0, 1, 0, 0, 0);
        x.pause(60);
        due("on() again", x.on(), 6);
        x.pause(60);
        due("image() anew", x.image(), 66);
        x.pause(1);
        due("on() from the new one", x.on(), 66);
        RingAndFinger off = of("pp100;t0;");
        off.image();
        off.back();
        off.on();
        due("on: OFF again", off.holds(), -9999);
    }

    private static void promise30Count() {
        RingAndFinger x = of("pp240;pk150;r1502;s05;c06;h7;t5;");
        rows(x, 1, 2);
        x.letter('p');
        state("count", x, 2, 0, 6, 6, 5, 6, 2, 150, 2, 1, 7);
        due("count(17)", x.count(17), 2);
        x.part(9, 0);
        x.kind(9, 0);
        x.kind(9, 0);
        x.on();
        x.on();
        x.on();
        x.pause(0);
        x.pause(61);
        x.pause(61);
        refusals("count", x, 1, 2, 3, 1, 0, 2);
        due("count(-1)", x.count(-1), -9);
        due("count(18)", x.count(18), -9);
        due("count(least int)", x.count(Integer.MIN_VALUE), -9);
        due("count(greatest int)", x.count(Integer.MAX_VALUE), -9);
        refusals("count is no refusal", x, 1, 2, 3, 1, 0, 2);
    }

    public static void main(String[] args) {
        promise1New();
        promise2Letter();
        promise3FormFaults();
        promise3SenseFaults();
        promise3Hand();
        promise4Part();
        promise4ThinParts();
        promise5Set();
        promise6Back();
        promise7Kind();
        promise8Tries();
        promise9Pause();
        promise10Would();
        promise11Holds();
        promise12Goes();
        promise13Stop();
        promise14Waited();
        promises15And16Ways();
        promise17Danger();
        promises18And19Months();
        promise20Year();
        promise21Two();
        promise22Worth();
        promise23Went();
        promise24Feel();
        promise25Row();
        promise26Judge();
        promise27Lots();
        promises28And29Image();
        promise30Count();
        System.out.println(asked + " answers, " + wrong + " not as due");
        if (wrong != 0) {
            System.exit(1);
        }
    }
}
