import java.lang.reflect.Method;
import java.nio.file.Files;
import java.nio.file.Path;
import java.util.Set;
import java.util.TreeSet;
import java.util.regex.Matcher;
import java.util.regex.Pattern;

/**
 * The calls that README.md shows, one behind the other, with the answers beside them. A line of its
 * Java that is no such call is a mistake, and so is a method of the face that it doesn't show.
 */
public final class ReadmeTest {
    private static final Calls calls = new Calls();
    private static final String MADE = "QueryClasses x = new QueryClasses();";
    private static final Pattern CALL = Pattern.compile("x\\.(\\w+)\\((.*?)\\); +// ([-\\w]+)(?:: (.+))?");
    private static final Set<String> shown = new TreeSet<>();

    public static void main(String[] args) throws Exception {
        Path root = Path.of(args.length > 0 ? args[0] : ".");
        boolean java = false;
        QueryClasses x = null;
        for (String line : Files.readString(root.resolve("README.md")).split("\n")) {
            if (line.startsWith("```")) {
                java = line.equals("```java");
            } else if (java && line.equals(MADE)) {
                x = new QueryClasses();
            } else if (java && !line.isBlank()) {
                shownCall(x, line);
            }
        }
        Set<String> face = new TreeSet<>();
        for (Method m : QueryClasses.class.getMethods()) {
            if (m.getDeclaringClass() == QueryClasses.class) face.add(m.getName());
        }
        calls.due("the methods that are shown", shown.toString(), face.toString());
        calls.done();
    }

    private static void shownCall(QueryClasses x, String line) throws Exception {
        Matcher found = CALL.matcher(line);
        boolean fits = x != null && found.matches();
        calls.due("a call with its answer: " + line, fits ? 1 : 0, 1);
        if (!fits) return;
        shown.add(found.group(1));
        String[] told = found.group(2).isEmpty() ? new String[0] : found.group(2).split(", ");
        if (found.group(1).equals("feed")) calls.due("the text of " + line, textOf(told), found.group(4));
        calls.due(line, answer(x, found.group(1), told), number(found.group(3)));
    }

    private static long answer(QueryClasses x, String name, String[] told) throws Exception {
        for (Method m : QueryClasses.class.getMethods()) {
            if (!m.getName().equals(name) || m.getParameterCount() != told.length) continue;
            Object[] numbers = new Object[told.length];
            for (int i = 0; i < told.length; i++) {
                long v = number(told[i]);
                boolean isLong = m.getParameterTypes()[i] == long.class;
                calls.due("an int: " + told[i], isLong || v == (int) v ? 1 : 0, 1);
                numbers[i] = isLong ? (Object) v : (Object) (int) v;
            }
            return ((Number) m.invoke(x, numbers)).longValue();
        }
        throw new IllegalArgumentException("no method " + name + " of " + told.length);
    }

    /** As Java writes it, or the name of a constant. */
    private static long number(String told) throws Exception {
        if (Character.isLetter(told.charAt(0))) {
            return ((Number) QueryClasses.class.getField(told).get(null)).longValue();
        }
        return Long.decode(told.endsWith("L") ? told.substring(0, told.length() - 1) : told);
    }

    private static String textOf(String[] told) throws Exception {
        StringBuilder text = new StringBuilder("\"");
        for (String n : told) {
            for (int shift = 24; shift >= 0; shift -= 8) text.append((char) (number(n) >> shift & 255));
        }
        return text.append('"').toString();
    }
}
