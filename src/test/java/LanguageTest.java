import java.io.IOException;
import java.lang.reflect.Field;
import java.lang.reflect.Method;
import java.lang.reflect.Modifier;
import java.nio.file.Files;
import java.nio.file.Path;
import java.util.ArrayList;
import java.util.List;
import java.util.Map;
import java.util.Set;
import java.util.TreeMap;
import java.util.TreeSet;
import java.util.regex.Matcher;
import java.util.regex.Pattern;

/** What of LANGUAGE.md can be told from the source's words and by reflection. */
public final class LanguageTest {
    private static final Path SOURCE = Path.of("src/main/java/RingAndFinger.java");
    private static final String FORBIDDEN = "\\b(throw|throws|try|catch|finally|synchronized|assert|import|package|var"
        + "|instanceof|while|protected|Object|System\\.(?!arraycopy)\\w+|\\w+Exact|Random|Thread)\\b|->|::|@";

    private static final Pattern HEAD = Pattern.compile(" {4,8}[\\w\\[\\] ]*?(\\w+)\\((?:(?:int|boolean|Finger)[^;=]*)?\\) \\{");
    private static final Pattern CALL = Pattern.compile("\\b(?!if\\b|for\\b|switch\\b|return\\b|new\\b)(\\w+)\\(");

    private static int wrong = 0;

    private static void hold(boolean holds, String rule) {
        if (!holds) {
            wrong++;
            System.out.println("not so: " + rule);
        }
    }

    private static void names() {
        TreeSet<String> open = new TreeSet<>();
        for (Method m : RingAndFinger.class.getDeclaredMethods()) {
            if (Modifier.isPublic(m.getModifiers())) {
                open.add(m.getName());
            }
        }
        for (Method m : RingAndFinger.class.getDeclaredMethods()) {
            hold(m.getParameterCount() <= 7, m + " takes seven at most");
            hold(!Modifier.isPrivate(m.getModifiers()) || !open.contains(m.getName()), m.getName() + " is no public name");
        }
    }

    private static void fields(Class<?> c) {
        int own = 0;
        for (Field f : c.getDeclaredFields()) {
            boolean fixed = Modifier.isStatic(f.getModifiers());
            own += fixed ? 0 : 1;
            hold(!fixed || Modifier.isFinal(f.getModifiers()), f + " is final");
            hold(c != RingAndFinger.class || Modifier.isPrivate(f.getModifiers()), f + " is private");
        }
        hold(own <= 20, c + " has some twenty fields");
    }

    private static void words(String source, String bare) {
        Matcher m = Pattern.compile(FORBIDDEN).matcher(bare);
        while (m.find()) {
            hold(false, "no '" + m.group() + "' in the source");
        }
        hold(source.chars().allMatch(c -> c < 127), "signs below 127");
    }

    private static void lengths(String source) {
        int open = -1;
        String[] lines = source.split("\n");
        for (int i = 0; i < lines.length; i++) {
            if (HEAD.matcher(lines[i]).matches()) {
                open = i;
            }
            if (open >= 0 && lines[i].matches(" {4,8}\\}") && i - open > 60) {
                hold(false, "short: " + lines[open].trim());
            }
        }
    }

    /** What a call makes would be kept till the run ends: all that is made is made with the object. */
    private static void made(String bare) {
        for (String line : bare.split("\n")) {
            hold(!line.matches(".*\\bnew\\b.*") || line.matches(" +(private )?final [\\w\\[\\]]+ \\w+ = new .*;"),
                "made with the object alone: " + line.trim());
        }
    }

    /** Of each name what its bodies call; two methods of one name count as one. */
    private static Map<String, Set<String>> calls(String bare) {
        Map<String, Set<String>> all = new TreeMap<>();
        String name = "";
        for (String line : bare.split("\n")) {
            Matcher head = HEAD.matcher(line);
            if (head.matches()) {
                name = head.group(1);
                all.putIfAbsent(name, new TreeSet<>());
            } else {
                Matcher call = CALL.matcher(line);
                while (!name.isEmpty() && call.find()) {
                    all.get(name).add(call.group(1));
                }
            }
        }
        return all;
    }

    private static int depth(Map<String, Set<String>> calls, String name, List<String> above) {
        hold(!above.contains(name), name + " is not called from within itself: " + above);
        int deepest = 0;
        if (!above.contains(name) && calls.containsKey(name)) {
            List<String> here = new ArrayList<>(above);
            here.add(name);
            for (String called : calls.get(name)) {
                deepest = Math.max(deepest, depth(calls, called, here));
            }
        }
        return deepest + 1;
    }

    private static void depths(String bare) {
        Map<String, Set<String>> calls = calls(bare);
        hold(calls.size() > 60 && calls.get("spread").contains("goesOver"), "the methods are found in the source");
        for (String name : calls.keySet()) {
            int deep = depth(calls, name, List.of());
            hold(deep <= 8, name + " goes eight deep at most, it goes " + deep);
        }
    }

    public static void main(String[] args) throws IOException {
        names();
        fields(RingAndFinger.class);
        for (Class<?> c : RingAndFinger.class.getDeclaredClasses()) {
            fields(c);
            hold(Modifier.isStatic(c.getModifiers()) && !Modifier.isPublic(c.getModifiers()), c + " is static, not public");
        }
        String source = Files.readString(SOURCE);
        String bare = source.replaceAll("(?s)/\\*.*?\\*/", " ").replaceAll("//[^\n]*", " ");
        words(source, bare);
        made(bare);
        depths(bare);
        lengths(source);
        System.out.println(wrong == 0 ? "the language is kept" : wrong + " rules are not kept");
        if (wrong != 0) {
            System.exit(1);
        }
    }
}
