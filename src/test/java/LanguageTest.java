import java.io.IOException;
import java.lang.reflect.Constructor;
import java.lang.reflect.Field;
import java.lang.reflect.Method;
import java.lang.reflect.Modifier;
import java.nio.file.Files;
import java.nio.file.Path;
import java.util.ArrayList;
import java.util.List;
import java.util.TreeSet;
import java.util.regex.Matcher;
import java.util.regex.Pattern;

/** What of LANGUAGE.md can be told from the source's words and by reflection. */
public final class LanguageTest {
    private static final Path SOURCE = Path.of("src/main/java/RingAndFinger.java");
    private static final String[] FACE = {"letter(int)", "hand()", "part(int,int)", "set(int,int)", "back()",
        "kind(int,int)", "tries(int)", "pause(int)", "would(int)", "holds()", "goes(int)", "stop()", "waited(int)",
        "soonest(int)", "gentlest(int)", "danger(int)", "sticks(int)", "falls(int)", "year(int,int,int)",
        "two(int,int,int,int,int)", "worth(int,int,int,int)", "went(int,int)", "feel(int)", "row(int)", "judge()",
        "lots(int,int)", "image()", "on()", "count(int)"};
    private static final String FORBIDDEN = "\\b(throw|throws|try|catch|finally|synchronized|assert|import|package|var"
        + "|instanceof|while|protected|Object|System\\.(?!arraycopy)\\w+|\\w+Exact|Random|Thread)\\b|->|::|@";

    private static int wrong = 0;

    private static void hold(boolean holds, String rule) {
        if (!holds) {
            wrong++;
            System.out.println("not so: " + rule);
        }
    }

    private static String signature(Method m) {
        StringBuilder s = new StringBuilder(m.getName()).append('(');
        for (Class<?> c : m.getParameterTypes()) {
            s.append(s.charAt(s.length() - 1) == '(' ? "" : ",").append(c.getName());
        }
        return s.append(')').toString();
    }

    private static void face() {
        TreeSet<String> due = new TreeSet<>(List.of(FACE));
        TreeSet<String> open = new TreeSet<>();
        TreeSet<String> openNames = new TreeSet<>();
        List<Method> hidden = new ArrayList<>();
        for (Method m : RingAndFinger.class.getDeclaredMethods()) {
            if (Modifier.isPrivate(m.getModifiers())) {
                hidden.add(m);
            } else {
                open.add(signature(m));
                openNames.add(m.getName());
                hold(m.getReturnType() == int.class && Modifier.isPublic(m.getModifiers()), m + " is public int");
            }
            hold(m.getParameterCount() <= 7, m + " takes seven at most");
        }
        hold(open.equals(due), "the face is the document's: " + open);
        for (Method m : hidden) {
            hold(!openNames.contains(m.getName()), m.getName() + " is no public name");
        }
        Constructor<?>[] made = RingAndFinger.class.getDeclaredConstructors();
        hold(made.length == 1 && made[0].getParameterCount() == 0 && Modifier.isPublic(made[0].getModifiers()),
            "one public constructor");
        hold(Modifier.isFinal(RingAndFinger.class.getModifiers()), "the class is final");
    }

    private static void fields(Class<?> c) {
        int own = 0;
        for (Field f : c.getDeclaredFields()) {
            boolean fixed = Modifier.isStatic(f.getModifiers());
            own += fixed ? 0 : 1;
            hold(!fixed || Modifier.isFinal(f.getModifiers()), f + " is final");
            hold(c != RingAndFinger.class || Modifier.isPrivate(f.getModifiers()), f + " is private");
        }
        hold(own <= 20, c + " has some twenty fields");
    }

    private static void words(String source) {
        String bare = source.replaceAll("(?s)/\\*.*?\\*/", " ").replaceAll("//[^\n]*", " ");
        Matcher m = Pattern.compile(FORBIDDEN).matcher(bare);
        while (m.find()) {
            hold(false, "no '" + m.group() + "' in the source");
        }
        hold(source.chars().allMatch(c -> c < 127), "signs below 127");
    }

    private static void lengths(String source) {
        int open = -1;
        String[] lines = source.split("\n");
        for (int i = 0; i < lines.length; i++) {
            if (lines[i].matches(" {4,8}[\\w<>\\[\\] ]+\\(.*\\) \\{")) {
                open = i;
            }
            if (open >= 0 && lines[i].matches(" {4,8}\\}") && i - open > 60) {
                hold(false, "short: " + lines[open].trim());
            }
        }
    }

    public static void main(String[] args) throws IOException {
        face();
        fields(RingAndFinger.class);
        for (Class<?> c : RingAndFinger.class.getDeclaredClasses()) {
            fields(c);
            hold(Modifier.isStatic(c.getModifiers()) && !Modifier.isPublic(c.getModifiers()), c + " is static, not public");
        }
        String source = Files.readString(SOURCE);
        words(source);
        lengths(source);
        System.out.println(wrong == 0 ? "the language is kept" : wrong + " rules are not kept");
        if (wrong != 0) {
            System.exit(1);
        }
    }
}
