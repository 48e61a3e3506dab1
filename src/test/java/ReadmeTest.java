import java.io.IOException;
import java.lang.reflect.Method;
import java.nio.file.Files;
import java.nio.file.Path;
import java.util.regex.Matcher;
import java.util.regex.Pattern;

/** README.md is held to the class: each call that it shows answers what stands behind it, and each is named. */
public final class ReadmeTest {
    private static final Pattern SHOWN = Pattern.compile("office\\.(\\w+)\\(([^)]*)\\);\\s+// (-?\\d+)(:.*)?");
    private static int wrong;
    private static int shown;

    public static void main(String[] args) throws ReflectiveOperationException, IOException {
        String page = Files.readString(Path.of("README.md"));
        ShipOffice office = new ShipOffice();
        for (String line : page.split("\n")) {
            if (line.startsWith("office.")) run(office, line);
        }
        if (shown == 0) fault("README.md shows no call");
        for (Method m : ShipOffice.class.getMethods()) {
            boolean own = m.getDeclaringClass() == ShipOffice.class;
            if (own && !page.contains("`" + m.getName() + "`")) fault("README.md does not name " + m.getName());
        }
        System.out.println(wrong == 0 ? shown + " calls of README.md answer what it says" : wrong + " faults of README.md");
        if (wrong != 0) System.exit(1);
    }

    private static void fault(String what) {
        wrong++;
        System.out.println(what);
    }

    private static void run(ShipOffice office, String line) throws ReflectiveOperationException {
        shown++;
        Matcher m = SHOWN.matcher(line);
        if (!m.matches()) {
            fault("no answer can be read in: " + line);
            return;
        }
        String[] words = m.group(2).split(", ");
        for (Method method : ShipOffice.class.getMethods()) {
            if (method.getName().equals(m.group(1)) && method.getParameterCount() == words.length) {
                Object got = method.invoke(office, values(words, method.getParameterTypes()));
                if (!got.toString().equals(m.group(3))) fault(line + " answered " + got);
                return;
            }
        }
        fault("there is no such call: " + line);
    }

    private static Object[] values(String[] words, Class<?>[] types) {
        Object[] values = new Object[words.length];
        for (int i = 0; i < words.length; i++) {
            if (types[i] == boolean.class) values[i] = Boolean.valueOf(words[i]);
            else if (types[i] == long.class) values[i] = Long.decode(words[i]);
            else values[i] = Integer.decode(words[i]);
        }
        return values;
    }
}
