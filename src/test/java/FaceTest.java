import java.lang.reflect.Constructor;
import java.lang.reflect.Field;
import java.lang.reflect.Method;
import java.lang.reflect.Modifier;
import java.util.ArrayList;
import java.util.Arrays;
import java.util.List;
import java.util.Random;
import java.util.TreeSet;
import java.util.function.Supplier;

/** What the document tells ahead of its Terms: "What it is" and "The public face". */
public final class FaceTest {
    private static final String[] METHODS = {"letter(int)", "hand()", "part(int,int)", "set(int,int)", "back()",
        "kind(int,int)", "tries(int)", "pause(int)", "would(int)", "holds()", "goes(int)", "stop()", "waited(int)",
        "soonest(int)", "gentlest(int)", "danger(int)", "sticks(int)", "falls(int)", "year(int,int,int)",
        "two(int,int,int,int,int)", "worth(int,int,int,int)", "went(int,int)", "feel(int)", "row(int)", "judge()",
        "lots(int,int)", "image()", "on()", "count(int)"};
    private static final int[] NUMBERS = {Integer.MIN_VALUE, Integer.MIN_VALUE + 1, -65536, -10, -9, -7, -6, -5, -4, -3, -2,
        -1, 0, 1, 2, 3, 5, 6, 7, 9, 10, 12, 13, 17, 18, 20, 21, 30, 31, 60, 61, 96, 99, 100, 250, 251, 255, 256, 999, 1000,
        65536, 1 << 30, Integer.MAX_VALUE - 1, Integer.MAX_VALUE};

    private static String signature(Method m) {
        List<String> types = new ArrayList<>();
        for (Class<?> c : m.getParameterTypes()) {
            types.add(c.getName());
        }
        return m.getName() + "(" + String.join(",", types) + ")";
    }

    private static List<Method> open() {
        List<Method> all = new ArrayList<>();
        for (Method m : RingAndFinger.class.getDeclaredMethods()) {
            if (!Modifier.isPrivate(m.getModifiers())) {
                all.add(m);
            }
        }
        all.sort((m, n) -> signature(m).compareTo(signature(n)));
        return all;
    }

    private static void holds(String what, boolean so) {
        Edges.due(what, so ? 1 : 0, 1);
    }

    // The public face "public int letter(int c); .. public int count(int what);": these 29 methods, as they stand there.
    private static void faceTheMethods() {
        TreeSet<String> found = new TreeSet<>();
        for (Method m : open()) {
            found.add(signature(m));
            holds(m + " is public, of an object, int", m.getModifiers() == Modifier.PUBLIC && m.getReturnType() == int.class);
            holds(m + " throws nothing", m.getExceptionTypes().length == 0);
        }
        holds("the methods are " + found, found.equals(new TreeSet<>(Arrays.asList(METHODS))));
        Edges.due("how many", found.size(), 29);
    }

    // The public face "public final class RingAndFinger", "public RingAndFinger();": one constructor, and no other public
    // member; nothing is inherited but from Object.
    private static void faceNothingElse() {
        Class<?> c = RingAndFinger.class;
        Edges.due("public final", c.getModifiers(), Modifier.PUBLIC | Modifier.FINAL);
        holds("no package", c.getPackageName().isEmpty());
        holds("under Object", c.getSuperclass() == Object.class && c.getInterfaces().length == 0);
        Constructor<?>[] made = c.getDeclaredConstructors();
        holds("one public constructor", made.length == 1 && made[0].getModifiers() == Modifier.PUBLIC
            && made[0].getParameterCount() == 0 && made[0].getExceptionTypes().length == 0);
        for (Field f : c.getDeclaredFields()) {
            holds(f + " is private", Modifier.isPrivate(f.getModifiers()));
        }
        for (Class<?> inside : c.getDeclaredClasses()) {
            holds(inside + " is not public", !Modifier.isPublic(inside.getModifiers()) && !Modifier.isProtected(inside.getModifiers()));
        }
    }

    private static int ask(RingAndFinger x, Method m, Object[] numbers) throws ReflectiveOperationException {
        return (Integer) m.invoke(x, numbers);
    }

    private static Object[] chosen(Method m, Random chance) {
        Object[] numbers = new Object[m.getParameterCount()];
        for (int i = 0; i < numbers.length; i++) {
            numbers[i] = NUMBERS[chance.nextInt(NUMBERS.length)];
        }
        return numbers;
    }

    // The public face, each method: whatever numbers it is given, wherever the RING is, it answers (LANGUAGE.md 7).
    private static void faceAlwaysAnswers() throws ReflectiveOperationException {
        Random chance = new Random(11);
        for (Supplier<RingAndFinger> start : Edges.starts()) {
            for (int run = 0; run < 4; run++) {
                RingAndFinger x = start.get();
                for (int i = 0; i < 300; i++) {
                    Method m = open().get(chance.nextInt(29));
                    Object[] numbers = chosen(m, chance);
                    int got = ask(x, m, numbers);
                    holds(m.getName() + Arrays.toString(numbers) + " answered " + got, got >= -9999);
                }
            }
        }
    }

    // What it is "for at most 512 calls": of each method that only looks, the last of so many answers as the first did.
    private static void whatItIsLooksAlike() throws ReflectiveOperationException {
        List<String> looks = List.of("part", "kind", "would", "holds", "goes", "stop", "waited", "soonest", "gentlest",
            "danger", "sticks", "falls", "year", "two", "worth", "went", "feel", "lots", "image", "count");
        for (Method m : open()) {
            if (looks.contains(m.getName())) {
                RingAndFinger x = Edges.rows(Edges.of("pp186;pk190;s11;c03;"), 0, 1, 2, 0, 5, 1, 4, 0, 3, 1, 6, 0);
                Object[] numbers = {1, 1, 1, 1, 1};
                numbers = m.getName().equals("sticks") || m.getName().equals("falls") ? new Object[] {185}
                    : Arrays.copyOf(numbers, m.getParameterCount());
                int first = ask(x, m, numbers);
                int last = first;
                for (int i = 35; i < 512; i++) {
                    last = ask(x, m, numbers);
                }
                Edges.due("the 512th call, " + m.getName(), last, first);
            }
        }
    }

    // What it is "for at most 512 calls": hands, TRIES and WAITS to the last of them.
    private static void whatItIsGoesOnToTheLast() {
        RingAndFinger x = Edges.of("pp100;");
        x.image();
        int calls = 8;
        while (calls + 9 <= 512) {
            Edges.due("hand at call " + calls, Edges.tell(x, "s09;"), 1);
            Edges.due("tries(4) then", x.tries(4), 1);
            Edges.due("pause(4) then", x.pause(4), 5);
            Edges.due("count(2) then", x.count(2), 12);
            Edges.due("on() then", x.on(), 0);
            calls += 9;
        }
        Edges.due("the last call", x.count(5), 0);
    }

    public static void main(String[] args) throws ReflectiveOperationException {
        Edges.runAll(FaceTest.class);
    }
}
