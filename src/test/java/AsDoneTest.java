/** Terms II: what is told ahead is what comes when it is really done, call by call, on an object made alike. */
public final class AsDoneTest {
    private static final String[] FINGERS = {
        "pp180;", "pp186;pk183;s04;", "pk190;pp181;s11;c03;", "ps168;pt190;s06;c09;h7;r1762;", "pr160;pj178;s12;c05;h2;r1809;",
        "pj183;ps171;s07;h9;r1851;", "pt192;pr171;pk188;s09;c14;h0;r1823;", "pp196;s02;r1819;", "pp205;pk170;s01;c02;r1807;",
        "pp170;pp170;pk172;ps160;pr158;pt180;s03;c01;r1703;t0;", "pp003;ps000;s02;c11;r1009;", "pp240;s30;r1004;"};

    private static boolean off(RingAndFinger x) {
        return x.holds() == -9999;
    }

    private static void move(RingAndFinger x, int move) {
        if (move == 7) {
            x.pause(5);
        } else {
            x.tries(move);
        }
    }

    // Terms II "WOULD a TRY go over: 1, 0": what the TRY answers when it is made.
    private static void terms2Would() {
        for (String text : FINGERS) {
            for (int kind = 0; kind < 7; kind++) {
                Edges.due("would(" + kind + ") of " + text, Edges.of(text).would(kind), Edges.of(text).tries(kind));
            }
        }
    }

    private static int goes(String text, int kind) {
        RingAndFinger x = Edges.of(text);
        for (int n = 0; n <= 12; n++) {
            if (x.tries(kind) == 1) {
                return n;
            }
        }
        return -9;
    }

    // Terms II "GOES: of a KIND, one behind the other, .. how many do not go over ahead of the one that does".
    private static void terms2Goes() {
        for (String text : FINGERS) {
            for (int kind = 0; kind < 7; kind++) {
                Edges.due("goes(" + kind + ") of " + text, Edges.of(text).goes(kind), goes(text, kind));
            }
        }
    }

    // Terms II "STOP: the KIND with the least GOES, of several the first; -9".
    private static void terms2Stop() {
        for (String text : FINGERS) {
            int best = -9;
            for (int kind = 6; kind >= 0; kind--) {
                int n = goes(text, kind);
                if (n >= 0 && (best < 0 || n <= goes(text, best))) {
                    best = kind;
                }
            }
            Edges.due("stop() of " + text, Edges.of(text).stop(), best);
        }
    }

    private static int waited(String text, int kind) {
        for (int m = 0; m <= 60; m++) {
            RingAndFinger x = Edges.of(text);
            if (m > 0) {
                x.pause(m);
            }
            if (x.tries(kind) == 1) {
                return m;
            }
        }
        return -9;
    }

    // Terms II "WAITED: the fewest MINUTES (0 .. 60) behind which a TRY of a KIND goes over": of one WAIT.
    private static void terms2Waited() {
        for (String text : FINGERS) {
            for (int kind = 0; kind < 7; kind++) {
                Edges.due("waited(" + kind + ") of " + text, Edges.of(text).waited(kind), waited(text, kind));
            }
        }
    }

    // Terms II "SOONEST: the fewest MINUTES .. behind which it can be OFF", "the first of these in such a way": who makes
    // the first, asks again, and so on, is OFF in as many MINUTES. (No finger here wants a third THREADED one.)
    private static void terms2SoonestIsAWay() {
        for (String text : FINGERS) {
            RingAndFinger x = Edges.of(text);
            int minutes = x.soonest(0);
            int from = x.count(5);
            for (int i = 0; i < 60 && x.soonest(1) >= 0; i++) {
                move(x, x.soonest(1));
            }
            Edges.due("soonest(0) of " + text, minutes, off(x) ? x.count(5) - from : -9);
            Edges.due("soonest(1) then", x.soonest(1), -9);
        }
    }

    // Terms II "GENTLEST: the least HARM .. by which it can be OFF so", "the first likewise".
    private static void terms2GentlestIsAWay() {
        for (String text : FINGERS) {
            RingAndFinger x = Edges.of(text);
            int harm = x.gentlest(0);
            int from = x.count(6);
            for (int i = 0; i < 60 && x.gentlest(1) >= 0; i++) {
                move(x, x.gentlest(1));
            }
            Edges.due("gentlest(0) of " + text, harm, off(x) ? x.count(6) - from : -9);
            Edges.due("gentlest(1) then", x.gentlest(1), -9);
        }
    }

    private static final int[] MINUTES = {1, 2, 3, 4, 1, 6, 8, 5};

    /** Whether some way of no more MINUTES than those left is OFF; the moves already made are told. */
    private static boolean sooner(String text, int[] moves, int made, int left) {
        RingAndFinger x = Edges.of(text);
        for (int i = 0; i < made; i++) {
            if (off(x)) {
                break;
            }
            move(x, moves[i]);
        }
        if (off(x)) {
            return true;
        }
        for (int move = 0; move < 8; move++) {
            moves[made] = move;
            if (MINUTES[move] <= left && sooner(text, moves, made + 1, left - MINUTES[move])) {
                return true;
            }
        }
        return false;
    }

    // Terms II "the fewest MINUTES": of all ways that take a minute less none is OFF.
    private static void terms2NoneIsSooner() {
        int looked = 0;
        for (String text : FINGERS) {
            int minutes = Edges.of(text).soonest(0);
            if (minutes > 0 && minutes <= 8) {
                looked++;
                Edges.due("a way of " + text + " in " + (minutes - 1), sooner(text, new int[9], 0, minutes - 1) ? 1 : 0, 0);
                Edges.due("a way of " + text + " in " + minutes, sooner(text, new int[9], 0, minutes) ? 1 : 0, 1);
            }
        }
        Edges.due("fingers looked at", looked >= 4 ? 1 : 0, 1);
    }

    // Terms II "DANGER: by n THREADED TRIES more .. one behind the other: how many MINUTES of WAIT then till BLUE is 9 or
    // less": one minute less leaves 10.
    private static void terms2Danger() {
        for (int ahead = 0; ahead <= 12; ahead += 3) {
            for (int n = 0; n <= 9; n++) {
                RingAndFinger x = Edges.of("pp240;r1009;");
                for (int i = 0; i < ahead; i++) {
                    x.tries(5);
                }
                int m = x.danger(n);
                for (int i = 0; i < n; i++) {
                    x.tries(5);
                }
                for (int i = 1; i < m; i++) {
                    x.pause(1);
                }
                if (m > 0) {
                    Edges.due("BLUE a minute ahead", x.count(4), 10);
                    x.pause(1);
                }
                Edges.due("BLUE behind " + m + " is 9 or less", x.count(4) <= 9 ? 1 : 0, 1);
            }
        }
    }

    private static final int[] HEATS = {0, 2, 1, 3, 5, 9, 8, 8, 6, 4, 1, 0};

    private static RingAndFinger year(String text) {
        return Edges.rows(Edges.of(text), HEATS);
    }

    /** How thick the thickest PART is in each MONTH. */
    private static int[] thickest(String text) {
        int[] all = new int[12];
        for (int month = 0; month < 12; month++) {
            RingAndFinger x = Edges.of(text);
            x.set(2, 2 * HEATS[month]);
            x.set(3, 9 - HEATS[month]);
            x.set(4, HEATS[month]);
            for (int part = 0; part < x.count(0); part++) {
                all[month] = Math.max(all[month], x.part(part, 2));
            }
        }
        return all;
    }

    // Terms II "with SWELL twice HEAT, COLD 9 less HEAT, that HEAT": as they are when they are set so.
    private static void terms2Months() {
        for (String text : FINGERS) {
            int[] thick = thickest(text);
            RingAndFinger x = year(text);
            for (int size = 100; size <= 250; size++) {
                int sticks = 0;
                int falls = 0;
                for (int month = 0; month < 12; month++) {
                    sticks += thick[month] > size + 4 ? 1 << month : 0;
                    falls += thick[month] < size - 9 ? 1 << month : 0;
                }
                Edges.due("sticks(" + size + ") of " + text, x.sticks(size), sticks);
                Edges.due("falls(" + size + ") of " + text, x.falls(size), falls);
            }
        }
    }

    /** The SIZE with the least and that, in MONTHS from .. to less 1 or in all else, by what sticks and falls tell. */
    private static int[] best(String text, int from, int to, boolean other, int a, int b) {
        RingAndFinger x = year(text);
        int[] best = {0, Integer.MAX_VALUE};
        for (int size = 100; size <= 250; size++) {
            int sticks = x.sticks(size);
            int falls = x.falls(size);
            int that = 0;
            for (int month = 0; month < 12; month++) {
                if ((month >= from && month < to) != other) {
                    that += a * (sticks >> month & 1) + b * (falls >> month & 1);
                }
            }
            if (that < best[1]) {
                best = new int[] {size, that};
            }
        }
        return best;
    }

    private static final int[][] PRICES = {{1, 1}, {3, 1}, {1, 4}, {99, 98}, {0, 5}, {5, 0}};

    // Terms II "YEAR: the SIZE (100 .. 250) with the least of a for each month it sticks and b for each it falls".
    private static void terms2Year() {
        for (String text : FINGERS) {
            RingAndFinger x = year(text);
            for (int[] p : PRICES) {
                int[] best = best(text, 0, 12, false, p[0], p[1]);
                Edges.due("year(" + p[0] + ", " + p[1] + ", 0) of " + text, x.year(p[0], p[1], 0), best[0]);
                Edges.due("year(" + p[0] + ", " + p[1] + ", 1) of " + text, x.year(p[0], p[1], 1), best[1]);
            }
        }
    }

    // Terms II "TWO SIZES: one in months from .. to less 1, another else: the least so, and what it is WORTH: by how much
    // less than YEAR's".
    private static void terms2TwoSizes() {
        int[][] spans = {{4, 10}, {0, 5}, {3, 3}, {5, 12}};
        for (String text : FINGERS) {
            RingAndFinger x = year(text);
            for (int i = 0; i < spans.length; i++) {
                int from = spans[i][0];
                int to = spans[i][1];
                int a = PRICES[i][0];
                int b = PRICES[i][1];
                int[] one = best(text, from, to, false, a, b);
                int[] other = best(text, from, to, true, a, b);
                String told = "(" + from + ", " + to + ", " + a + ", " + b + ") of " + text;
                Edges.due("two, the one, " + told, x.two(from, to, a, b, 0), one[0]);
                Edges.due("two, the other, " + told, x.two(from, to, a, b, 1), other[0]);
                Edges.due("two, both, " + told, x.two(from, to, a, b, 2), one[1] + other[1]);
                Edges.due("worth" + told, x.worth(from, to, a, b), x.year(a, b, 1) - one[1] - other[1]);
            }
        }
    }

    // Terms II "WENT ON: SWELLS (0 .. 30; COLD, HEAT as they are) at which all PARTS are no more than SIZE and what a
    // KIND allows: how many; the greatest".
    private static void terms2WentOn() {
        for (String text : FINGERS) {
            for (int kind = 0; kind < 7; kind++) {
                RingAndFinger x = Edges.of(text);
                int most = x.count(7) + x.kind(kind, 0);
                int many = 0;
                int greatest = -9;
                for (int swell = 0; swell <= 30; swell++) {
                    x.set(2, swell);
                    int thick = 0;
                    for (int part = 0; part < x.count(0); part++) {
                        thick = Math.max(thick, x.part(part, 2));
                    }
                    many += thick <= most ? 1 : 0;
                    greatest = thick <= most ? swell : greatest;
                }
                Edges.due("went(" + kind + ", 0) of " + text, Edges.of(text).went(kind, 0), many);
                Edges.due("went(" + kind + ", 1) of " + text, Edges.of(text).went(kind, 1), greatest);
            }
        }
    }

    private static boolean feels(String text, int[] twos) {
        RingAndFinger x = Edges.of(text);
        for (int i = 0; i < twos.length; i += 2) {
            if (x.tries(twos[i]) != twos[i + 1]) {
                return false;
            }
            x.back();
        }
        return true;
    }

    // Terms II "FEEL: .. the least, the greatest THICK (0 .. 240) of that PART by which all is so": of each KIND of PART;
    // THREADED ones as often as they are told.
    private static void terms2Feel() {
        int[][] rows = {{0, 1}, {5, 0}, {1, 1, 0, 0}, {0, 0, 6, 1, 4, 0}, {5, 1, 5, 1, 5, 1, 5, 1, 0, 0}, {6, 0, 6, 0, 6, 1},
            {2, 1, 3, 0, 3, 0, 6, 1}, {4, 1, 4, 1, 4, 1, 4, 1, 4, 1, 4, 1}, {0, 0, 0, 1}};
        for (char part : "pksrjt".toCharArray()) {
            for (int[] row : rows) {
                int least = -9;
                int greatest = -9;
                for (int thick = 0; thick <= 240; thick++) {
                    if (feels(String.format("p%c%03d;s08;c03;h5;r1796;", part, thick), row)) {
                        least = least < 0 ? thick : least;
                        greatest = thick;
                    }
                }
                RingAndFinger x = Edges.rows(Edges.of("p" + part + "177;s08;c03;h5;r1796;"), row);
                Edges.due("feel(0) of a " + part + ", " + row.length + " told", x.feel(0), least);
                Edges.due("feel(1) of a " + part + ", " + row.length + " told", x.feel(1), greatest);
            }
        }
    }

    private static int judged(String text, int[] row) {
        RingAndFinger x = Edges.of(text);
        for (int i = 0; i < row.length; i++) {
            if (row[i] < 8 && !off(x)) {
                move(x, row[i]);
                if (off(x)) {
                    return i;
                }
            }
        }
        return -9;
    }

    // Terms II "JUDGED: a ROW of KINDS (7: a WAIT of 5) from now: the first behind which the RING is OFF"; THREADED ones
    // as often as they are told.
    private static void terms2Judged() {
        int[][] rows = {{0, 1, 2, 3, 4, 5, 6}, {7, 7, 1, 7, 1, 7, 1, 7, 1, 7, 1}, {5, 5, 5, 5, 5, 5}, {6, 6, 6, 5, 5, 7, 7, 5, 5},
            {9, 5, 8, 5, 9, 5, 8, 5, 7, 5, 6, 5}, {4, 7, 7, 7, 2, 7, 7, 7, 2}, {3, 3, 3, 3, 3, 3, 3, 3, 3, 3, 3, 3}};
        for (String text : FINGERS) {
            for (int[] row : rows) {
                Edges.due("judge() of " + text, Edges.rows(Edges.of(text), row).judge(), judged(text, row));
            }
        }
        Edges.due("judge(), four THREADED ones", Edges.rows(Edges.of("pp188;pp187;pp186;pp185;r1809;"), 5, 5, 5, 5).judge(), 3);
    }

    private static int lots(String text, int n, int z) {
        int[] seed = {z};
        int harm = 0;
        for (int i = 0; i < n; i++) {
            RingAndFinger x = Edges.of(text);
            int from = x.count(6);
            x.set(2, draw(seed, 31));
            for (int t = 0; t < 12 && !off(x); t++) {
                x.tries(draw(seed, 6));
            }
            harm += x.count(6) - from;
        }
        return harm;
    }

    private static int draw(int[] seed, int below) {
        seed[0] = seed[0] * 1664525 + 1013904223;
        return (seed[0] & Integer.MAX_VALUE) / 256 % below;
    }

    // Terms II "LOTS with a seed z: n evenings (1 .. 20), each with SWELL a DRAW below 31, from now else: TRIES of KINDS
    // that are DRAWS below 6 (12 at most, till it is OFF): all HARM together".
    private static void terms2Lots() {
        for (String text : FINGERS) {
            for (int z : new int[] {0, 1, -7, 123456789, Integer.MIN_VALUE}) {
                for (int n : new int[] {1, 2, 7, 20}) {
                    Edges.due("lots(" + n + ", " + z + ") of " + text, Edges.of(text).lots(n, z), lots(text, n, z));
                }
            }
        }
    }

    public static void main(String[] args) throws ReflectiveOperationException {
        Edges.runAll(AsDoneTest.class);
    }
}
