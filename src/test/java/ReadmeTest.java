import java.lang.reflect.Method;
import java.lang.reflect.Modifier;
import java.nio.file.Files;
import java.nio.file.Path;
import java.util.Set;
import java.util.TreeSet;
import java.util.regex.Matcher;
import java.util.regex.Pattern;

/** The calls in README.md, one behind the other on one object: each gives the answer that stands behind it. */
public final class ReadmeTest {
    private static final Pattern CALL = Pattern.compile("hall\\.(\\w+)\\((.*)\\);\\s*// (true|false|-?\\d+).*");

    private static Method named(String name) {
        for (Method m : TurningHall.class.getDeclaredMethods()) {
            if (Modifier.isPublic(m.getModifiers()) && m.getName().equals(name)) {
                return m;
            }
        }
        throw new IllegalArgumentException("README.md uses what is not there: " + name);
    }

    private static Object[] arguments(Method method, String told) {
        Class<?>[] types = method.getParameterTypes();
        Object[] all = new Object[types.length];
        String[] words = told.isEmpty() ? new String[0] : told.split(", ");
        if (words.length != all.length) {
            throw new IllegalArgumentException("README.md gives " + words.length + " arguments to " + method);
        }
        for (int k = 0; k < all.length; k++) {
            boolean wide = types[k] == long.class;
            if (wide != words[k].endsWith("L")) {
                throw new IllegalArgumentException("README.md gives " + words[k] + " to " + method);
            }
            long value = Long.decode(words[k].replace("L", ""));
            all[k] = wide ? (Object) value : (Object) (int) value;
        }
        return all;
    }

    private static Set<String> face() {
        Set<String> names = new TreeSet<>();
        for (Method m : TurningHall.class.getDeclaredMethods()) {
            if (Modifier.isPublic(m.getModifiers())) {
                names.add(m.getName());
            }
        }
        return names;
    }

    public static void main(String[] args) throws Exception {
        TurningHall hall = new TurningHall();
        Set<String> unused = face();
        for (String line : Files.readAllLines(Path.of("README.md"))) {
            if (!line.startsWith("hall.")) {
                continue;
            }
            Matcher m = CALL.matcher(line);
            if (!m.matches()) {
                throw new IllegalArgumentException("no answer stands behind " + line);
            }
            Method method = named(m.group(1));
            Due.due(line, "" + method.invoke(hall, arguments(method, m.group(2))), m.group(3));
            unused.remove(m.group(1));
        }
        Due.due("calls that README.md does not show", "" + unused, "[]");
        Due.finish("ReadmeTest");
    }
}
