import java.util.Arrays;
import java.util.Random;

/** Runs of chance calls against a model that tries out all that may be, one call after the other. */
public final class RingAndFingerModelTest {
    private static final int RUNS = 300;
    private static final int CALLS = 300;

    private static final int[][] TRIES = {{0, 1, 2, 1}, {4, 2, 2, 1}, {7, 3, 3, 1}, {0, 4, 1, 1}, {6, 1, 5, 3},
        {15, 6, 1, 2}, {4, 8, 2, 1}};

    private static final class State {
        int[] kinds = {};
        int[] thicks = {};
        int[] settings = {180, 4, 0, 0, 3};
        int front;
        int blue;
        int minute;
        int harm;

        State copy() {
            State s = new State();
            s.kinds = kinds.clone();
            s.thicks = thicks.clone();
            s.settings = settings.clone();
            s.front = front;
            s.blue = blue;
            s.minute = minute;
            s.harm = harm;
            return s;
        }

        boolean off() {
            return front == kinds.length;
        }

        static int now(int kind, int thick, int swell, int cold, int heat) {
            return Math.max(0, uncut(kind, thick, swell, cold, heat));
        }

        static int uncut(int kind, int thick, int swell, int cold, int heat) {
            switch (kind) {
                case 0: return thick + swell - cold;
                case 1: return thick + (swell >> 1) - (cold >> 2);
                case 2: return now(0, thick, swell, cold, heat) + swell;
                case 3: return now(2, thick, swell, cold, heat) + (swell > 9 ? 3 : 0);
                case 4: return now(1, thick, swell, cold, heat) + heat;
                default: return now(4, thick, swell, cold, heat) - 10;
            }
        }

        int thick(int p) {
            return now(kinds[p], thicks[p], settings[2], settings[3], settings[4]);
        }

        int most() {
            int most = Integer.MIN_VALUE;
            for (int p = 0; p < kinds.length; p++) {
                most = Math.max(most, thick(p));
            }
            return most;
        }

        int of(int kind, int what) {
            return kind == 3 && what == 0 ? 9 - settings[1] : TRIES[kind][what];
        }

        boolean would(int kind) {
            State s = copy();
            return s.attempt(kind);
        }

        boolean attempt(int kind) {
            if (kind == 6) {
                settings[3] = Math.min(20, settings[3] + 8);
            }
            boolean over = thick(front) <= settings[0] + of(kind, 0);
            settings[2] = Math.min(30, settings[2] + of(kind, 2));
            minute += of(kind, 1);
            harm += of(kind, 3);
            blue = Math.min(99, blue + (kind == 5 ? 5 : 0));
            front += over ? 1 : 0;
            return over;
        }

        void pause(int m) {
            settings[2] = Math.max(0, settings[2] - m / 2);
            settings[3] = Math.max(0, settings[3] - m / 3);
            blue = Math.max(0, blue - m);
            minute += m;
        }
    }

    /** The least price to OFF from every place that there is, by going over all of them till none gets less. */
    private static final class Ways {
        static final int FAR = 1 << 20;
        final State s;
        final boolean byHarm;
        final int[] far;

        Ways(State s, boolean byHarm) {
            this.s = s;
            this.byHarm = byHarm;
            far = new int[s.kinds.length * 31 * 21 * 3];
            Arrays.fill(far, FAR);
            for (int front = s.kinds.length - 1; front >= 0; front--) {
                settle(front * 31 * 63, (front + 1) * 31 * 63);
            }
        }

        void settle(int from, int to) {
            boolean less = true;
            while (less) {
                less = false;
                for (int i = from; i < to; i++) {
                    for (int move = 0; move < 8; move++) {
                        int price = through(i, move);
                        if (price < far[i]) {
                            far[i] = price;
                            less = true;
                        }
                    }
                }
            }
        }

        int at(int front, int swell, int cold, int used) {
            return front == s.kinds.length ? 0 : far[((front * 31 + swell) * 21 + cold) * 3 + used];
        }

        int start() {
            return at(s.front, s.settings[2], s.settings[3], 0);
        }

        int first(int total) {
            int i = ((s.front * 31 + s.settings[2]) * 21 + s.settings[3]) * 3;
            for (int move = 0; move < 8; move++) {
                if (through(i, move) == total) {
                    return move;
                }
            }
            return -9;
        }

        int through(int i, int move) {
            int used = i % 3;
            int cold = i / 3 % 21;
            int swell = i / 63 % 31;
            int front = i / 63 / 31;
            if (move == 7) {
                return (byHarm ? 0 : 5) + at(front, Math.max(0, swell - 2), Math.max(0, cold - 1), used);
            }
            if (move == 5 && used == 2) {
                return FAR;
            }
            int colder = move == 6 ? Math.min(20, cold + 8) : cold;
            int thick = State.now(s.kinds[front], s.thicks[front], swell, colder, s.settings[4]);
            boolean over = thick <= s.settings[0] + s.of(move, 0);
            return s.of(move, byHarm ? 3 : 1)
                + at(over ? front + 1 : front, Math.min(30, swell + s.of(move, 2)), colder, used + (move == 5 ? 1 : 0));
        }
    }

    private static final class Model {
        State now = new State();
        State image;
        String text = "";
        int[] row = {};
        final int[] refusals = new int[7];

        long no(int code) {
            refusals[-code]++;
            return code;
        }

        static boolean out(int v, int least, int greatest) {
            return v < least || v > greatest;
        }

        long call(int which, int[] a) {
            switch (which) {
                case 0: return letter(a[0]);
                case 1: return hand();
                case 2: return out(a[0], 0, now.kinds.length - 1) ? no(-1) : out(a[1], 0, 2) ? no(-2)
                    : a[1] == 0 ? now.kinds[a[0]] : a[1] == 1 ? now.thicks[a[0]] : now.thick(a[0]);
                case 3: return set(a[0], a[1]);
                case 4: int was = now.front; now.front = 0; return was;
                case 5: return out(a[0], 0, 6) || out(a[1], 0, 3) ? no(-2) : now.of(a[0], a[1]);
                case 6: return out(a[0], 0, 6) ? no(-2) : now.off() ? no(-3) : now.minute + now.of(a[0], 1) > 999 ? no(-6)
                    : now.attempt(a[0]) ? 1 : 0;
                case 7: return pause(a[0]);
                case 8: return out(a[0], 0, 6) ? no(-2) : now.off() ? no(-3) : now.would(a[0]) ? 1 : 0;
                case 9: return now.off() ? -9999 : now.thick(now.front) - now.settings[0];
                case 10: return out(a[0], 0, 6) ? no(-2) : now.off() ? no(-3) : goes(a[0]);
                case 11: return stop();
                case 12: return out(a[0], 0, 6) ? no(-2) : now.off() ? no(-3) : waited(a[0]);
                case 13: return out(a[0], 0, 1) ? no(-2) : way(false, a[0], 120);
                case 14: return out(a[0], 0, 1) ? no(-2) : way(true, a[0], 60);
                case 15: return a[0] < 0 ? no(-4) : a[0] > 9 ? no(-6) : danger(a[0]);
                case 16: return a[0] < 100 ? no(-4) : a[0] > 250 ? no(-6) : row.length != 12 ? no(-3) : months(a[0], true);
                case 17: return a[0] < 100 ? no(-4) : a[0] > 250 ? no(-6) : row.length != 12 ? no(-3) : months(a[0], false);
                case 18: return year(a[0], a[1], a[2]);
                case 19: return two(a[0], a[1], a[2], a[3], a[4]);
                case 20: return worth(a[0], a[1], a[2], a[3]);
                case 21: return went(a[0], a[1]);
                case 22: return feel(a[0]);
                case 23: return row(a[0]);
                case 24: return judge();
                case 25: return a[0] < 1 ? no(-4) : a[0] > 20 ? no(-6) : lots(a[0], a[1]);
                case 26: image = now.copy(); return now.minute;
                case 27: if (image == null) { return no(-3); } now = image.copy(); return now.minute;
                default: return count(a[0]);
            }
        }

        long letter(int c) {
            if (c < 0) {
                return no(-4);
            }
            if (c > 255 || text.length() == 96) {
                return no(-6);
            }
            text += (char) c;
            return text.length();
        }

        /** Tells whether some hand goes on from this text. */
        static boolean goesOn(String s) {
            return s.matches("(p[pksrjt]\\d{3};|r\\d{4};|[scw]\\d\\d;|[ht]\\d;)*(|p|p[pksrjt]\\d{0,3}|r\\d{0,4}|[scw]\\d{0,2}|[ht]\\d?)");
        }

        long hand() {
            String t = text;
            text = "";
            int viable = 0;
            while (viable < t.length() && goesOn(t.substring(0, viable + 1))) {
                viable++;
            }
            if (viable < t.length() || t.isEmpty() || !t.endsWith(";")) {
                return -1000 - viable;
            }
            State s = now.copy();
            int place = 0;
            String[] statements = t.split(";");
            for (String one : statements) {
                if (!take(s, one)) {
                    return -2000 - place;
                }
                place += one.length() + 1;
            }
            now = s;
            return statements.length;
        }

        static boolean take(State s, String one) {
            String end = one.substring(1);
            switch (one.charAt(0)) {
                case 'p':
                    int thick = Integer.parseInt(one.substring(2));
                    int n = s.kinds.length;
                    if (thick > 240 || n == 6 || n > 0 && s.off()) {
                        return false;
                    }
                    s.kinds = Arrays.copyOf(s.kinds, n + 1);
                    s.thicks = Arrays.copyOf(s.thicks, n + 1);
                    s.kinds[n] = "pksrjt".indexOf(one.charAt(1));
                    s.thicks[n] = thick;
                    return true;
                case 'r':
                    int size = Integer.parseInt(one.substring(1, 4));
                    int broad = Integer.parseInt(one.substring(4));
                    s.settings[0] = size;
                    s.settings[1] = broad;
                    return !out(size, 100, 250) && broad > 0;
                case 's': s.settings[2] = Integer.parseInt(end); return s.settings[2] <= 30;
                case 'c': s.settings[3] = Integer.parseInt(end); return s.settings[3] <= 20;
                case 'h': s.settings[4] = Integer.parseInt(end); return true;
                case 't':
                    int kind = Integer.parseInt(end);
                    if (kind > 6 || s.off()) {
                        return false;
                    }
                    s.attempt(kind);
                    return s.minute <= 999;
                default:
                    int m = Integer.parseInt(end);
                    s.pause(m);
                    return !out(m, 1, 60) && s.minute <= 999;
            }
        }

        long set(int what, int v) {
            int[] least = {100, 1, 0, 0, 0};
            int[] greatest = {250, 9, 30, 20, 9};
            if (out(what, 0, 4)) {
                return no(-2);
            }
            if (v < least[what]) {
                return no(-4);
            }
            if (v > greatest[what]) {
                return no(-6);
            }
            int was = now.settings[what];
            now.settings[what] = v;
            return was;
        }

        long pause(int m) {
            if (m < 1) {
                return no(-4);
            }
            if (m > 60 || now.minute + m > 999) {
                return no(-6);
            }
            now.pause(m);
            return now.minute;
        }

        long goes(int kind) {
            State s = now.copy();
            for (int n = 0; n < 13; n++) {
                if (s.attempt(kind)) {
                    return n;
                }
            }
            return -9;
        }

        long stop() {
            if (now.off()) {
                return no(-3);
            }
            for (int n = 0; n < 13; n++) {
                for (int kind = 0; kind < 7; kind++) {
                    if (goes(kind) == n) {
                        return kind;
                    }
                }
            }
            return -9;
        }

        long waited(int kind) {
            for (int m = 0; m < 61; m++) {
                State s = now.copy();
                s.pause(m);
                if (s.would(kind)) {
                    return m;
                }
            }
            return -9;
        }

        long way(boolean byHarm, int what, int most) {
            if (now.off()) {
                return what == 0 ? 0 : -9;
            }
            Ways ways = new Ways(now, byHarm);
            int total = ways.start();
            if (total > most) {
                return -9;
            }
            return what == 0 ? total : ways.first(total);
        }

        long danger(int n) {
            int blue = now.blue;
            for (int i = 0; i < n; i++) {
                blue = Math.min(99, blue + 5);
            }
            int m = 0;
            while (blue - m > 9) {
                m++;
            }
            return m;
        }

        int months(int size, boolean stick) {
            int bits = 0;
            for (int i = 0; i < 12; i++) {
                State s = now.copy();
                s.settings[2] = 2 * row[i];
                s.settings[3] = 9 - row[i];
                s.settings[4] = row[i];
                if (stick ? s.most() > size + 4 : s.most() < size - 9) {
                    bits += 1 << i;
                }
            }
            return bits;
        }

        /** The size and the least by it, of months told in bits. */
        int[] best(int bits, int a, int b) {
            int[] best = {0, Integer.MAX_VALUE};
            for (int size = 100; size <= 250; size++) {
                int that = 0;
                int stick = months(size, true);
                int fall = months(size, false);
                for (int i = 0; i < 12; i++) {
                    int bit = 1 << i & bits;
                    that += ((stick & bit) != 0 ? a : 0) + ((fall & bit) != 0 ? b : 0);
                }
                if (that < best[1]) {
                    best = new int[] {size, that};
                }
            }
            return best;
        }

        static int span(int from, int to) {
            int bits = 0;
            for (int i = from; i < to; i++) {
                bits += 1 << i;
            }
            return bits;
        }

        long year(int a, int b, int what) {
            if (Math.min(a, b) < 0) {
                return no(-4);
            }
            if (Math.max(a, b) > 99) {
                return no(-6);
            }
            return out(what, 0, 1) ? no(-2) : row.length != 12 ? no(-3) : best(4095, a, b)[what];
        }

        int spanRefusal(int from, int to, int a, int b) {
            if (Math.min(Math.min(from, to), Math.min(a, b)) < 0) {
                return -4;
            }
            return from > 12 || to > 12 || from > to || Math.max(a, b) > 99 ? -6 : 0;
        }

        long two(int from, int to, int a, int b, int what) {
            int refusal = spanRefusal(from, to, a, b);
            if (refusal != 0) {
                return no(refusal);
            }
            if (out(what, 0, 2)) {
                return no(-2);
            }
            if (row.length != 12) {
                return no(-3);
            }
            int[] one = best(span(from, to), a, b);
            int[] other = best(4095 & ~span(from, to), a, b);
            return what == 0 ? one[0] : what == 1 ? other[0] : one[1] + other[1];
        }

        long worth(int from, int to, int a, int b) {
            int refusal = spanRefusal(from, to, a, b);
            if (refusal != 0) {
                return 1000000000 - no(refusal);
            }
            if (row.length != 12) {
                return 1000000000 - no(-3);
            }
            return best(4095, a, b)[1] - two(from, to, a, b, 2);
        }

        long went(int kind, int what) {
            if (out(kind, 0, 6) || out(what, 0, 1)) {
                return no(-2);
            }
            int many = 0;
            int greatest = -9;
            for (int swell = 0; swell < 31; swell++) {
                State s = now.copy();
                s.settings[2] = swell;
                if (s.most() <= s.settings[0] + s.of(kind, 0)) {
                    many++;
                    greatest = swell;
                }
            }
            return what == 0 ? many : greatest;
        }

        long feel(int what) {
            if (out(what, 0, 1)) {
                return no(-2);
            }
            if (now.off() || row.length % 2 != 0) {
                return no(-3);
            }
            for (int i = 0; i < row.length; i += 2) {
                if (row[i] > 6 || row[i + 1] > 1) {
                    return no(-3);
                }
            }
            for (int i = 0; i < 241; i++) {
                int thick = what == 0 ? i : 240 - i;
                if (feels(thick)) {
                    return thick;
                }
            }
            return -9;
        }

        boolean feels(int thick) {
            State s = now.copy();
            s.thicks[s.front] = thick;
            for (int i = 0; i < row.length; i += 2) {
                if (s.attempt(row[i]) != (row[i + 1] == 1)) {
                    return false;
                }
                s.front = now.front;
            }
            return true;
        }

        long row(int v) {
            if (v < 0) {
                return no(-4);
            }
            if (v > 9 || row.length == 12) {
                return no(-6);
            }
            row = Arrays.copyOf(row, row.length + 1);
            row[row.length - 1] = v;
            return row.length;
        }

        long judge() {
            int[] told = row;
            row = new int[0];
            State s = now.copy();
            for (int i = 0; i < told.length && !now.off(); i++) {
                if (told[i] == 7) {
                    s.pause(5);
                } else if (told[i] < 7) {
                    s.attempt(told[i]);
                }
                if (s.off()) {
                    return i;
                }
            }
            return -9;
        }

        long lots(int n, int z) {
            int harm = 0;
            for (int i = 0; i < n; i++) {
                State s = now.copy();
                z = z * 1664525 + 1013904223;
                s.settings[2] = (z & 0x7fffffff) / 256 % 31;
                for (int k = 0; k < 12 && !s.off(); k++) {
                    z = z * 1664525 + 1013904223;
                    s.attempt((z & 0x7fffffff) / 256 % 6);
                }
                harm += s.harm - now.harm;
            }
            return harm;
        }

        long count(int what) {
            int[] all = {now.kinds.length, now.front, now.settings[2], now.settings[3], now.blue, now.minute, now.harm,
                now.settings[0], row.length, text.length(), now.settings[4], refusals[1], refusals[2], refusals[3],
                refusals[4], refusals[5], refusals[6], now.settings[1]};
            return out(what, 0, 17) ? -9 : all[what];
        }
    }

    private static long call(RingAndFinger x, int which, int[] a) {
        switch (which) {
            case 0: return x.letter(a[0]);
            case 1: return x.hand();
            case 2: return x.part(a[0], a[1]);
            case 3: return x.set(a[0], a[1]);
            case 4: return x.back();
            case 5: return x.kind(a[0], a[1]);
            case 6: return x.tries(a[0]);
            case 7: return x.pause(a[0]);
            case 8: return x.would(a[0]);
            case 9: return x.holds();
            case 10: return x.goes(a[0]);
            case 11: return x.stop();
            case 12: return x.waited(a[0]);
            case 13: return x.soonest(a[0]);
            case 14: return x.gentlest(a[0]);
            case 15: return x.danger(a[0]);
            case 16: return x.sticks(a[0]);
            case 17: return x.falls(a[0]);
            case 18: return x.year(a[0], a[1], a[2]);
            case 19: return x.two(a[0], a[1], a[2], a[3], a[4]);
            case 20: return x.worth(a[0], a[1], a[2], a[3]);
            case 21: return x.went(a[0], a[1]);
            case 22: return x.feel(a[0]);
            case 23: return x.row(a[0]);
            case 24: return x.judge();
            case 25: return x.lots(a[0], a[1]);
            case 26: return x.image();
            case 27: return x.on();
            default: return x.count(a[0]);
        }
    }

    private static final class Run {
        final Random chance;
        final RingAndFinger x = new RingAndFinger();
        final Model model = new Model();
        final StringBuilder told = new StringBuilder();
        final int base;
        int calls;
        boolean wrong;

        Run(int seed) {
            chance = new Random(seed);
            base = 130 + chance.nextInt(90);
        }

        int below(int n) {
            return chance.nextInt(n);
        }

        int of(int least, int greatest) {
            int odd = below(200);
            if (odd == 0) {
                return new int[] {Integer.MIN_VALUE, Integer.MAX_VALUE, -1000, 1000, 65536}[below(5)];
            }
            return odd < 12 ? least - 1 : odd < 24 ? greatest + 1 : least + below(greatest - least + 1);
        }

        void ask(int which, int... given) {
            if (wrong || calls == 512) {
                return;
            }
            calls++;
            int[] a = Arrays.copyOf(given, 5);
            told.append(' ').append(which).append(Arrays.toString(given));
            long want = model.call(which, a);
            long got = call(x, which, a);
            if (got != want) {
                wrong = true;
                System.out.println("call" + told + " answered " + got + ", by the model " + want);
            }
        }

        void tell(String text) {
            for (int i = 0; i < text.length(); i++) {
                ask(0, text.charAt(i));
            }
            ask(1);
        }

        static String digits(int v, int n) {
            return ("000" + v).substring(3 + String.valueOf(v).length() - n);
        }

        int near() {
            if (below(12) == 0) {
                return below(30);
            }
            return below(8) == 0 ? below(241) : Math.max(0, Math.min(240, base - 12 + below(28)));
        }

        String statement() {
            switch (below(9)) {
                case 0:
                case 1: return "p" + "pksrjt".charAt(below(6)) + digits(below(30) == 0 ? 241 : near(), 3) + ";";
                case 2: return "r" + digits(below(30) == 0 ? 99 : Math.max(100, base), 3) + digits(below(30) == 0 ? 0 : 1 + below(9), 1) + ";";
                case 3: return "s" + digits(below(32), 2) + ";";
                case 4: return "c" + digits(below(21), 2) + ";";
                case 5: return "h" + below(10) + ";";
                case 6:
                case 7: return "t" + below(below(20) == 0 ? 8 : 7) + ";";
                default: return "w" + digits(below(62), 2) + ";";
            }
        }

        String hand() {
            StringBuilder text = new StringBuilder();
            int n = 1 + below(4);
            for (int i = 0; i < n; i++) {
                text.append(statement());
            }
            if (below(4) == 0) {
                int place = below(text.length());
                switch (below(3)) {
                    case 0: text.deleteCharAt(place); break;
                    case 1: text.insert(place, "p0;x9t".charAt(below(6))); break;
                    default: text.setLength(place); break;
                }
            }
            return text.toString();
        }

        void fingers() {
            StringBuilder text = new StringBuilder("r" + digits(Math.max(100, base), 3) + (1 + below(9)) + ";");
            int n = 1 + below(6);
            for (int i = 0; i < n; i++) {
                text.append('p').append("pksrjt".charAt(below(6))).append(digits(near(), 3)).append(';');
            }
            tell(text + "s" + digits(below(31), 2) + ";");
        }

        void twelve() {
            ask(24);
            int warm = below(10);
            for (int i = 0; i < 12; i++) {
                ask(23, below(3) == 0 ? below(10) : warm);
            }
        }

        void twos() {
            ask(24);
            int n = 1 + below(6);
            for (int i = 0; i < n; i++) {
                ask(23, below(7));
                ask(23, below(2));
            }
        }

        void once() {
            switch (below(40)) {
                case 0:
                case 1: tell(hand()); break;
                case 2: ask(2, of(0, 5), of(0, 2)); break;
                case 3: ask(3, of(0, 4), of(0, 20)); break;
                case 4: ask(3, 0, below(9) == 0 ? of(100, 250) : base - 4 + below(9)); break;
                case 5: ask(4); break;
                case 6: ask(5, of(0, 6), of(0, 3)); break;
                case 7:
                case 8:
                case 9: ask(6, of(0, 6)); break;
                case 10: ask(7, of(1, 60)); break;
                case 11: ask(7, 1 + below(9)); break;
                case 12: ask(8, of(0, 6)); break;
                case 13: ask(9); break;
                case 14: ask(10, of(0, 6)); break;
                case 15: ask(11); break;
                case 16: ask(12, of(0, 6)); break;
                case 17: ask(13, of(0, 1)); break;
                case 18: ask(14, of(0, 1)); break;
                case 19: ask(15, of(0, 9)); break;
                case 20: ask(16, below(3) == 0 ? of(100, 250) : base - 10 + below(40)); break;
                case 21: ask(17, below(3) == 0 ? of(100, 250) : base - 10 + below(40)); break;
                case 22: ask(18, of(0, 99), of(0, 99), of(0, 1)); break;
                case 23: ask(19, of(0, 6), of(6, 12), of(0, 9), of(0, 9), of(0, 2)); break;
                case 24: ask(20, of(0, 8), of(4, 12), of(0, 99), of(0, 99)); break;
                case 25: ask(21, of(0, 6), of(0, 1)); break;
                case 26: ask(22, of(0, 1)); break;
                case 27: ask(23, of(0, 9)); break;
                case 28: ask(24); break;
                case 29: ask(25, of(1, 20), chance.nextInt()); break;
                case 30: ask(26); break;
                case 31: ask(27); break;
                case 32:
                case 33:
                case 34: ask(28, of(0, 17)); break;
                case 35: twelve(); break;
                case 36: twos(); ask(22, below(2)); break;
                case 37: ask(3, 2, below(31)); break;
                case 38: ask(3, 3, below(21)); break;
                default: ask(6, below(7)); break;
            }
        }

        boolean right() {
            fingers();
            while (!wrong && calls < CALLS) {
                once();
            }
            for (int what = -1; what < 19; what++) {
                ask(28, what);
            }
            return !wrong;
        }
    }

    /** The ways off from chance places: they need the most to be right. */
    private static boolean waysAreRight(int seed) {
        Run run = new Run(-seed);
        run.fingers();
        for (int i = 0; i < 3; i++) {
            run.ask(3, 2, run.below(31));
            run.ask(3, 3, run.below(21));
            run.ask(3, 0, Math.max(100, run.base - 6 + run.below(16)));
            run.ask(13, 0);
            run.ask(13, 1);
            run.ask(14, 0);
            run.ask(14, 1);
            run.ask(6, run.below(7));
        }
        return !run.wrong;
    }

    /** Parts so thin that the cuts at 0 tell, of each kind one. */
    private static boolean thinPartsAreRight(int seed) {
        Run run = new Run(-seed);
        StringBuilder text = new StringBuilder();
        for (int p = 0; p < 6; p++) {
            text.append('p').append("pksrjt".charAt(p)).append(Run.digits(run.below(25), 3)).append(';');
        }
        run.tell(text.toString());
        for (int i = 0; i < 20; i++) {
            run.ask(3, 2, run.below(31));
            run.ask(3, 3, run.below(21));
            run.ask(3, 4, run.below(10));
            for (int p = 0; p < 6; p++) {
                run.ask(2, p, 2);
            }
            run.ask(9);
            run.ask(6, run.below(7));
        }
        return !run.wrong;
    }

    public static void main(String[] args) {
        int factor = args.length > 0 ? Integer.parseInt(args[0]) : 1;
        int wrong = 0;
        for (int seed = 1; seed <= RUNS * factor; seed++) {
            if (!new Run(seed).right() || !waysAreRight(seed) || !thinPartsAreRight(seed)) {
                wrong++;
                System.out.println("seed " + seed + " is wrong");
            }
        }
        System.out.println(RUNS * factor + " runs, " + wrong + " not as the model");
        if (wrong != 0) {
            System.exit(1);
        }
    }
}
