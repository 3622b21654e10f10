import java.lang.reflect.Method;
import java.util.ArrayList;
import java.util.Arrays;
import java.util.Comparator;
import java.util.List;
import java.util.function.Supplier;
import java.util.function.ToIntBiFunction;
import java.util.function.ToLongFunction;

/** What the tests of sentences share: starts, answers that are due, and twins of which one was asked something more. */
final class Edges {
    static final int[] FAR_BELOW = {-1, -2, -128, -256, -65536, Integer.MIN_VALUE + 1, Integer.MIN_VALUE};
    static final int[] FAR_ABOVE = {256, 65536, 1 << 30, Integer.MAX_VALUE - 1, Integer.MAX_VALUE};

    private static int asked = 0;
    private static int wrong = 0;

    private Edges() {
    }

    static void due(String call, long got, long want) {
        asked++;
        if (got != want) {
            wrong++;
            System.out.println(call + " answered " + got + ", due is " + want);
        }
    }

    /** Runs every method of the class that is named by what it tests, and ends with 1 if an answer was not as due. */
    static void runAll(Class<?> tests) throws ReflectiveOperationException {
        Method[] methods = tests.getDeclaredMethods();
        Arrays.sort(methods, Comparator.comparing(Method::getName));
        int ran = 0;
        for (Method m : methods) {
            if (m.getName().matches("(promise|terms|face|whatItIs|readme).*") && m.getParameterCount() == 0) {
                m.setAccessible(true);
                m.invoke(null);
                ran++;
            }
        }
        System.out.println(tests.getName() + ": " + ran + " sentences, " + asked + " answers, " + wrong + " not as due");
        if (wrong != 0 || ran == 0) {
            System.exit(1);
        }
    }

    static String times(String text, int n) {
        return text.repeat(n);
    }

    static void letters(RingAndFinger x, String text) {
        for (int i = 0; i < text.length(); i++) {
            x.letter(text.charAt(i));
        }
    }

    static int tell(RingAndFinger x, String text) {
        letters(x, text);
        return x.hand();
    }

    static RingAndFinger of(String text) {
        RingAndFinger x = new RingAndFinger();
        tell(x, text);
        return x;
    }

    /** As told, and then waits till MINUTE is as asked for (SWELL and COLD are 0 then, if that was long). */
    static RingAndFinger late(String text, int minute) {
        RingAndFinger x = of(text);
        while (x.count(5) < minute) {
            x.pause(Math.min(60, minute - x.count(5)));
        }
        return x;
    }

    static RingAndFinger rows(RingAndFinger x, int... numbers) {
        for (int v : numbers) {
            x.row(v);
        }
        return x;
    }

    /** In the order PARTS, in front of which, SWELL, COLD, BLUE, MINUTE, HARM, SIZE, ROW, letters, HEAT. */
    static void state(String where, RingAndFinger x, int... want) {
        for (int i = 0; i < want.length; i++) {
            due(where + ": count(" + i + ")", x.count(i), want[i]);
        }
    }

    /** In the middle of it: each KIND of PART, one passed, all counts above 0, an image, three in the ROW, letters. */
    static RingAndFinger midway() {
        RingAndFinger x = of("pp190;pk185;ps170;pr150;pj180;pt186;r1805;s04;c03;h6;t5;");
        x.image();
        x.pause(3);
        x.set(1, 3);
        rows(x, 1, 0, 7);
        letters(x, "pp1");
        return x;
    }

    /** The RING is past both PARTS; an even ROW, a whole hand in letters. */
    static RingAndFinger off() {
        RingAndFinger x = of("pp100;pk120;s08;c05;t5;t6;");
        x.image();
        x.pause(1);
        rows(x, 0, 1, 6, 0);
        letters(x, "s07;");
        return x;
    }

    /** As much as there may be: six PARTS, MINUTE 999, SWELL 30, COLD 20, BLUE 99, twelve in the ROW, 96 letters. */
    static RingAndFinger full() {
        RingAndFinger x = late("pp240;pk240;ps240;pr240;pj240;pt240;r2509;h9;", 879);
        for (int i = 0; i < 20; i++) {
            x.tries(5);
            x.back();
        }
        x.set(2, 30);
        x.set(3, 20);
        x.image();
        rows(x, 0, 9, 1, 8, 2, 7, 3, 6, 4, 5, 9, 0);
        letters(x, times("h0;", 32));
        return x;
    }

    static List<Supplier<RingAndFinger>> starts() {
        return List.of(RingAndFinger::new, Edges::midway, Edges::off, Edges::full);
    }

    /** The call is refused, and its twin, that was not asked, goes on alike: nothing changed but the count. */
    static void refused(String call, Supplier<RingAndFinger> start, ToLongFunction<RingAndFinger> ask, long want) {
        RingAndFinger x = start.get();
        due(call, ask.applyAsLong(x), want);
        alike(call, x, start.get(), (int) (want > 0 ? 1000000000 - want : want));
    }

    /** The same from each start. */
    static void refusedAnywhere(String call, ToLongFunction<RingAndFinger> ask, long want) {
        int n = 0;
        for (Supplier<RingAndFinger> start : starts()) {
            refused(call + " from start " + n, start, ask, want);
            n++;
        }
    }

    /** Of a call with one number: what is far below and far above its range is refused, from each start. */
    static void refusedFar(String name, ToIntBiFunction<RingAndFinger, Integer> ask, int below, int above) {
        for (int far : FAR_BELOW) {
            refusedAnywhere(name + "(" + far + ")", x -> ask.applyAsInt(x, far), below);
        }
        for (int far : FAR_ABOVE) {
            refusedAnywhere(name + "(" + far + ")", x -> ask.applyAsInt(x, far), above);
        }
    }

    /** The call answers, and its twin, that was not asked, goes on alike: nothing changed at all. */
    static void asks(String call, Supplier<RingAndFinger> start, ToLongFunction<RingAndFinger> ask, long want) {
        RingAndFinger x = start.get();
        due(call, ask.applyAsLong(x), want);
        alike(call, x, start.get(), 0);
    }

    private static void alike(String call, RingAndFinger x, RingAndFinger twin, int refusal) {
        for (int no = -1; no >= -6; no--) {
            long more = no == refusal ? 1 : 0;
            due("behind " + call + ": REFUSALS " + no, x.count(10 - no), twin.count(10 - no) + more);
        }
        List<Long> got = goesOn(x);
        List<Long> want = goesOn(twin);
        for (int i = 0; i < Math.min(got.size(), want.size()); i++) {
            due("behind " + call + ": its " + i + "th answer", got.get(i), want.get(i));
        }
        due("behind " + call + ": how many answers", got.size(), want.size());
    }

    private static void shows(RingAndFinger x, List<Long> all) {
        for (int what : new int[] {0, 1, 2, 3, 4, 5, 6, 7, 8, 9, 10, 17}) {
            all.add((long) x.count(what));
        }
        for (int part = 0; part < x.count(0); part++) {
            for (int what = 0; what < 3; what++) {
                all.add((long) x.part(part, what));
            }
        }
        all.add((long) x.holds());
    }

    /** Answers by which PARTS, the RING, the ROW, the letters and THE IMAGE show. */
    private static List<Long> goesOn(RingAndFinger x) {
        List<Long> all = new ArrayList<>();
        shows(x, all);
        for (int kind = 0; kind < 7; kind++) {
            all.add((long) x.waited(kind));
            all.add((long) x.went(kind, 0));
        }
        for (int size = 100; size <= 250; size += 10) {
            all.add((long) x.sticks(size));
            all.add((long) x.falls(size));
        }
        all.add((long) x.feel(0));
        all.add((long) x.feel(1));
        all.add((long) x.soonest(0));
        all.add((long) x.gentlest(0));
        all.add((long) x.lots(2, 5));
        all.add((long) x.judge());
        all.add((long) x.hand());
        shows(x, all);
        all.add((long) x.tries(5));
        shows(x, all);
        all.add((long) x.on());
        shows(x, all);
        return all;
    }
}
