import java.io.IOException;
import java.lang.reflect.Constructor;
import java.lang.reflect.Field;
import java.lang.reflect.Method;
import java.lang.reflect.Modifier;
import java.nio.file.Files;
import java.nio.file.Path;
import java.util.ArrayList;
import java.util.Arrays;
import java.util.List;
import java.util.Set;
import java.util.TreeSet;
import java.util.regex.Matcher;
import java.util.regex.Pattern;

/** What can be seen of LANGUAGE.md from outside: the face of the class, and words its source may not have. */
public final class LanguageTest {
    private static final String[] FACE = {
        "aboard(int,int,int)", "act(int,int)", "advance(int,int)", "agreementOf(int,int)", "allot(int,int)",
        "ask(int,int,int)", "back(int,int)", "borrowed(int)", "check(int,int,int)", "count(int)", "crew(int,int)",
        "days(int)", "died(int,int)", "earns(int,int,int)", "ended(int,int)", "feed(int,long)",
        "fine(int,int,int,boolean)", "group(int)", "heard(int,int)", "home(int)", "left(int,int,int,int)",
        "lost(int,int)", "man(int,int,int)", "miles(int,int,int)", "off(int,int)", "owed(int,int,int)", "put(int)",
        "rations(int,int,int)", "read(int,int)", "sailed(int,int)", "sign(int,int,int,int,int)", "sold(int,int)",
        "stands(int,int,int)", "state(int,int,int)", "voyage(int,int)"};
    private static final String[] BANNED = {
        "\\bthrow\\b", "\\btry\\b", "\\bcatch\\b", "\\bsynchronized\\b", "\\bassert\\b", "->", "::", "\\bequals\\b",
        "\\bhashCode\\b", "\\btoString\\b", "\\w+Exact\\b", "\\bprotected\\b", "^package\\b", "\\bSystem\\.(?!arraycopy)",
        "\\bwhile\\s*\\(true\\)", "\\bMAX_VALUE\\b", "\\bMIN_VALUE\\b"};
    /** All of the library that rule 4 lists and that a class without texts and lists can want. */
    private static final Set<String> LIBRARY = Set.of("Arrays.fill", "Arrays.copyOf", "Arrays.copyOfRange",
        "System.arraycopy", "Math.min", "Math.max", "Math.abs", "Math.floorDiv", "Math.floorMod");
    private static final int LONGEST_METHOD = 60;
    private static final int MOST_FIELDS = 20;
    private static final List<String> faults = new ArrayList<>();

    public static void main(String[] args) throws IOException {
        face();
        nested();
        members(ShipOffice.class);
        for (Class<?> c : ShipOffice.class.getDeclaredClasses()) members(c);
        source(Files.readString(Path.of("src/main/java/ShipOffice.java")));
        faults.forEach(System.out::println);
        System.out.println(faults.isEmpty() ? "the language is kept" : faults.size() + " faults of language");
        if (!faults.isEmpty()) System.exit(1);
    }

    private static void fault(boolean is, String what) {
        if (is) faults.add(what);
    }

    private static void face() {
        Class<?> c = ShipOffice.class;
        fault(!Modifier.isPublic(c.getModifiers()) || !Modifier.isFinal(c.getModifiers()), "the class is not public and final");
        Set<String> seen = new TreeSet<>();
        Set<String> names = new TreeSet<>();
        for (Method m : c.getDeclaredMethods()) {
            if (Modifier.isPublic(m.getModifiers())) {
                StringBuilder b = new StringBuilder(m.getName()).append('(');
                for (Class<?> p : m.getParameterTypes()) b.append(p.getName()).append(',');
                b.setCharAt(b.length() - 1, ')');
                seen.add(b.toString());
                names.add(m.getName());
                fault(m.getReturnType() != int.class, m + " does not answer an int");
            } else {
                fault(!Modifier.isPrivate(m.getModifiers()), m + " is neither public nor private");
            }
        }
        fault(!seen.equals(new TreeSet<>(Arrays.asList(FACE))), "the face is " + seen);
        for (Method m : c.getDeclaredMethods()) {
            fault(!Modifier.isPublic(m.getModifiers()) && names.contains(m.getName()), m + " has a public one's name");
        }
        for (Field f : c.getDeclaredFields()) fault(!Modifier.isPrivate(f.getModifiers()), f + " is not private");
        for (Constructor<?> k : c.getDeclaredConstructors()) fault(k.getParameterCount() != 0, k + " is not of the face");
    }

    private static void nested() {
        Class<?>[] inside = ShipOffice.class.getDeclaredClasses();
        fault(inside.length > 11, "there are more than twelve classes");
        for (Class<?> c : inside) {
            fault(!Modifier.isStatic(c.getModifiers()), c + " is not static");
            fault(Modifier.isPublic(c.getModifiers()), c + " is public");
            fault(c.getDeclaredClasses().length > 0, c + " has classes inside");
        }
    }

    private static void members(Class<?> c) {
        int own = 0;
        for (Field f : c.getDeclaredFields()) {
            boolean isStatic = Modifier.isStatic(f.getModifiers());
            fault(isStatic && !Modifier.isFinal(f.getModifiers()), f + " is static and not final");
            fault(isStatic && !isConstant(f.getType()), f + " is static and no constant that rule 5 lets");
            if (!isStatic) own++;
        }
        fault(own > MOST_FIELDS, c + " has more than twenty fields");
        for (Method m : c.getDeclaredMethods()) fault(m.getParameterCount() > 7, m + " takes more than seven");
        for (Constructor<?> k : c.getDeclaredConstructors()) fault(k.getParameterCount() > 7, k + " takes more than seven");
    }

    private static boolean isConstant(Class<?> type) {
        return Set.of(int.class, long.class, boolean.class, char.class, String.class,
            int[].class, long[].class, char[].class, byte[].class).contains(type);
    }

    private static void source(String text) {
        String code = text.replaceAll("(?s)/\\*.*?\\*/", "").replaceAll("//[^\n]*", "");
        for (String word : BANNED) {
            Matcher m = Pattern.compile(word, Pattern.MULTILINE).matcher(code);
            fault(m.find(), "the source has " + word);
        }
        Matcher m = Pattern.compile("^import ([^;]*);", Pattern.MULTILINE).matcher(code);
        while (m.find()) {
            fault(!Set.of("java.util.Arrays", "java.util.ArrayList", "java.util.List").contains(m.group(1)), "import of " + m.group(1));
        }
        m = Pattern.compile("\\b(?:Arrays|System|Math|Integer|Long|Character|String|Objects)\\.\\w+").matcher(code);
        while (m.find()) fault(!LIBRARY.contains(m.group()), "the source calls " + m.group());
        lengths(text.split("\n"));
    }

    /** A method begins on a line of one or two steps in that ends with "{", and ends with "}" as far in. */
    private static void lengths(String[] lines) {
        Pattern head = Pattern.compile("( {4}| {8})[a-zA-Z][^=;]*\\) \\{");
        Pattern inner = Pattern.compile(" *(if|for|while|switch|do)\\b.*");
        int seen = 0;
        for (int i = 0; i < lines.length; i++) {
            Matcher m = head.matcher(lines[i]);
            if (!m.matches() || inner.matcher(lines[i]).matches()) continue;
            int end = i;
            while (end < lines.length && !lines[end].equals(m.group(1) + "}")) end++;
            seen++;
            fault(end - i + 1 > LONGEST_METHOD, "a method of " + (end - i + 1) + " lines: " + lines[i].trim());
        }
        fault(seen < FACE.length, "only " + seen + " methods were found");
    }
}
