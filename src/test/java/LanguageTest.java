import java.lang.reflect.Constructor;
import java.lang.reflect.Field;
import java.lang.reflect.Method;
import java.lang.reflect.Modifier;
import java.nio.file.Files;
import java.nio.file.Path;
import java.util.Arrays;
import java.util.HashSet;
import java.util.List;
import java.util.Map;
import java.util.Set;
import java.util.TreeMap;
import java.util.TreeSet;
import java.util.regex.Matcher;
import java.util.regex.Pattern;

/** What of ../shared/LANGUAGE.md can be seen from the source and from the class itself. */
public final class LanguageTest {
    private static final String[] FORBIDDEN = {
        "\\b(throw|throws|try|catch|finally|synchronized|assert|volatile|native|package|goto)\\b",
        "->", "::", "\\w+Exact\\b", "@\\w+", "\\bObject\\b", "\\bHash\\w+", "\\bequals\\b", "\\bhashCode\\b",
        "\\btoString\\b", "\\bgetClass\\b", "\\bThread\\b", "\\bRandom\\b", "\\brandom\\b", "\\bcurrentTimeMillis\\b",
        "\\bnanoTime\\b", "\\bdouble\\b", "\\bfloat\\b", "\\bstatic\\s*\\{", "\\bwhile\\s*\\(\\s*true",
        "\\bfor\\s*\\([^;]*;\\s*;", "\\\"\\s*\\+", "\\+\\s*\\\"", "\\bimport\\s+(?!java\\.util\\.Arrays;)",
    };
    /** Of the library what the class uses; Long.MIN_VALUE stands in the document's face. */
    private static final Set<String> LIBRARY = Set.of("Arrays.fill", "Integer.bitCount", "Long.MIN_VALUE", "Math.abs",
        "Math.max", "Math.min", "System.arraycopy");
    private static final int DEEPEST_CALLS = 8;
    private static final String[] CONSTANTS = {"NONE", "BAD", "STATE", "FULL", "OVER", "NO"};
    private static final int LONGEST_METHOD = 60;
    private static final Pattern METHOD = Pattern.compile(
        "^( {4}| {8})(?! |if\\b|for\\b|while\\b|switch\\b|else\\b|return\\b)[\\w\\[\\]<> ]+\\(([^()]*)\\) \\{$");

    public static void main(String[] args) throws Exception {
        if (args.length < 1) {
            System.out.println("the path of the source is missing");
            System.exit(1);
        }
        String source = Files.readString(Path.of(args[0]));
        String code = source.replaceAll("(?s)/\\*.*?\\*/", "").replaceAll("//[^\\n]*", "");
        forbiddenWords(code);
        library(code);
        signs(source);
        methodLengths(code);
        callDepth(code);
        face();
        privateNames();
        staticFields();
        Check.end();
    }

    private static void forbiddenWords(String code) {
        for (String words : FORBIDDEN) {
            Matcher found = Pattern.compile(words).matcher(code);
            boolean there = found.find();
            Check.due("the source has '" + (there ? found.group() : words) + "'", there ? 1 : 0, 0);
        }
    }

    private static void library(String code) {
        Matcher used = Pattern.compile("\\b([A-Z][a-z]\\w*)\\.(\\w+)").matcher(code);
        while (used.find()) {
            boolean listed = LIBRARY.contains(used.group());
            Check.due("rule 4, 'The library: only what stands here.': " + used.group(), listed ? 1 : 0, 1);
        }
    }

    private static void signs(String source) {
        long strange = source.chars().filter(c -> c < 1 || c > 127).count();
        Check.due("strange signs in the source", strange, 0);
    }

    // A method begins with a brace at the end of a line that has parentheses, and ends where its brace is closed.
    private static void methodLengths(String code) {
        String[] lines = code.split("\n");
        for (int k = 0; k < lines.length; k++) {
            Matcher m = METHOD.matcher(lines[k]);
            if (m.find()) {
                int end = k;
                while (end < lines.length && !lines[end].equals(m.group(1) + "}")) {
                    end++;
                }
                Check.due("lines of" + lines[k], end - k < LONGEST_METHOD ? 1 : 0, 1);
                Check.due("parameters of" + lines[k], m.group(2).split(",").length <= 7 ? 1 : 0, 1);
            }
        }
    }

    // Methods of one name count as one, which can only make the way longer.
    private static void callDepth(String code) {
        Map<String, Set<String>> calls = new TreeMap<>();
        Pattern call = Pattern.compile("(?<!new )\\b([a-z]\\w*)\\(");
        String within = "";
        for (String line : code.split("\n")) {
            Matcher m = METHOD.matcher(line);
            if (m.find()) {
                Matcher name = call.matcher(line);
                within = name.find() ? name.group(1) : "";
                calls.putIfAbsent(within, new TreeSet<>());
            } else {
                for (Matcher to = call.matcher(line); to.find();) {
                    calls.getOrDefault(within, new TreeSet<>()).add(to.group(1));
                }
            }
        }
        Check.due("methods were found", calls.size() > 100 ? 1 : 0, 1);
        for (String name : calls.keySet()) {
            int depth = depth(calls, name, 0);
            String words = "rule 11, 'calls that are no recursion go at most eight deep': " + name + " goes " + depth;
            Check.due(words, depth <= DEEPEST_CALLS ? 1 : 0, 1);
        }
    }

    // What calls itself goes deeper than any bound.
    private static int depth(Map<String, Set<String>> calls, String name, int above) {
        int deepest = 0;
        if (above <= DEEPEST_CALLS) {
            for (String to : calls.getOrDefault(name, Set.of())) {
                deepest = calls.containsKey(to) ? Math.max(deepest, depth(calls, to, above + 1)) : deepest;
            }
        }
        return deepest + 1;
    }

    private static void face() {
        Class<?> c = PartnerWorth.class;
        Check.due("public final", c.getModifiers(), Modifier.PUBLIC | Modifier.FINAL);
        Constructor<?>[] made = c.getDeclaredConstructors();
        Check.due("constructors", made.length, 1);
        Check.due("of it public", made[0].getModifiers(), Modifier.PUBLIC);
        Check.due("without parameters", made[0].getParameterCount(), 0);
        int calls = 0;
        for (Method m : c.getDeclaredMethods()) {
            if (!Modifier.isPrivate(m.getModifiers())) {
                calls++;
                Check.due(m.getName() + " is public", m.getModifiers(), Modifier.PUBLIC);
            }
        }
        Check.due("calls", calls, 53);
        Set<String> seen = new TreeSet<>();
        for (Field f : c.getDeclaredFields()) {
            if (!Modifier.isPrivate(f.getModifiers())) {
                seen.add(f.getName());
            }
        }
        Check.dueText("constants", seen.toString(), new TreeSet<>(Arrays.asList(CONSTANTS)).toString());
    }

    private static List<Class<?>> classes() {
        List<Class<?>> all = new java.util.ArrayList<>();
        all.add(PartnerWorth.class);
        all.addAll(Arrays.asList(PartnerWorth.class.getDeclaredClasses()));
        return all;
    }

    private static void privateNames() {
        Set<String> calls = new HashSet<>();
        for (Method m : PartnerWorth.class.getDeclaredMethods()) {
            if (Modifier.isPublic(m.getModifiers())) {
                calls.add(m.getName());
            }
        }
        Check.due("classes", classes().size() <= 12 ? 1 : 0, 1);
        for (Class<?> c : classes()) {
            for (Method m : c.getDeclaredMethods()) {
                boolean shared = calls.contains(m.getName()) && !Modifier.isPublic(m.getModifiers());
                Check.due(c.getName() + "." + m.getName() + " bears the name of a call", shared ? 1 : 0, 0);
            }
        }
    }

    private static void staticFields() {
        for (Class<?> c : classes()) {
            boolean nested = c != PartnerWorth.class;
            Check.due(c.getName() + " is static", !nested || Modifier.isStatic(c.getModifiers()) ? 1 : 0, 1);
            int kept = 0;
            for (Field f : c.getDeclaredFields()) {
                boolean fixed = Modifier.isStatic(f.getModifiers());
                kept += fixed ? 0 : 1;
                boolean fine = !fixed || Modifier.isFinal(f.getModifiers());
                Check.due(f.getName() + " is final if it is static", fine ? 1 : 0, 1);
            }
            Check.due("fields of " + c.getName(), kept <= 20 ? 1 : 0, 1);
        }
    }
}
