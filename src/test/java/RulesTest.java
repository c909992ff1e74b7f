import java.lang.reflect.Constructor;
import java.lang.reflect.Field;
import java.lang.reflect.Method;
import java.lang.reflect.Modifier;
import java.nio.file.Files;
import java.nio.file.Path;
import java.util.ArrayList;
import java.util.List;
import java.util.Set;
import java.util.TreeSet;
import java.util.regex.Matcher;
import java.util.regex.Pattern;

/** The face that the document tells, and what of LANGUAGE.md can be seen from outside. */
public final class RulesTest {
    private static final Calls calls = new Calls();
    private static final String[] FACE = {"about(int,int)int", "act(int,int,int,int)int", "acts(int,int)int", "cell(int,int)long",
        "clear()int", "column(int,int,int)int", "count(int)int", "drop(int)int", "end(int)int", "fault()int",
        "feed(int,int,int,int,int)int", "hit(int)int", "objects(int)int", "put(int,int,long)int", "query()int", "run(int)int",
        "score(int)long", "share(int,int)int", "told(int)int", "value(int)long"};
    private static final String[] FORBIDDEN = {"throw", "throws", "try", "catch", "finally", "synchronized", "assert", "import",
        "package", "protected", "volatile", "native", "Object", "System\\.out", "Double\\.", "Float\\.", "Math\\.", "->", "::",
        "equals", "hashCode", "toString", "NaN"};

    public static void main(String[] args) throws Exception {
        face();
        members();
        Path root = Path.of(args.length > 0 ? args[0] : ".");
        source(Files.readString(root.resolve("src/main/java/QueryClasses.java")));
        calls.done();
    }

    private static void face() {
        Class<?> c = QueryClasses.class;
        calls.due("public and final", Modifier.toString(c.getModifiers()), "public final");
        Set<String> methods = new TreeSet<>();
        for (Method m : c.getDeclaredMethods()) {
            if (Modifier.isPrivate(m.getModifiers())) continue;
            StringBuilder s = new StringBuilder(m.getName()).append('(');
            for (Class<?> p : m.getParameterTypes()) s.append(s.charAt(s.length() - 1) == '(' ? "" : ",").append(p.getName());
            methods.add(s.append(')').append(m.getReturnType().getName()).toString());
            calls.due(m.getName(), Modifier.toString(m.getModifiers()), "public");
        }
        calls.due("methods", methods.toString(), new TreeSet<>(Set.of(FACE)).toString());
        Set<String> fields = new TreeSet<>();
        for (Field f : c.getDeclaredFields()) {
            if (!Modifier.isPrivate(f.getModifiers())) fields.add(f.getName() + " " + Modifier.toString(f.getModifiers()) + " " + f.getType());
        }
        String constant = " public static final ";
        calls.due("constants", fields.toString(), "[BAD" + constant + "int, FULL" + constant + "int, LOST" + constant
            + "long, NO" + constant + "int, NONE" + constant + "int]");
        Constructor<?>[] made = c.getDeclaredConstructors();
        calls.due("constructors", made.length, 1);
        calls.due("constructor", made[0].toString(), "public QueryClasses()");
    }

    private static void members() {
        Set<String> open = new TreeSet<>();
        for (String f : FACE) open.add(f.substring(0, f.indexOf('(')));
        List<Class<?>> all = new ArrayList<>(List.of(QueryClasses.class.getDeclaredClasses()));
        calls.due("at most twelve classes", all.size() + 1 <= 12 ? 1 : 0, 1);
        all.add(QueryClasses.class);
        for (Class<?> c : all) {
            if (c != QueryClasses.class) calls.due(c + " is static", Modifier.isStatic(c.getModifiers()) ? 1 : 0, 1);
            int fields = 0;
            for (Field f : c.getDeclaredFields()) {
                boolean isStatic = Modifier.isStatic(f.getModifiers());
                if (!isStatic) fields++;
                else calls.due(f + " is final", Modifier.isFinal(f.getModifiers()) ? 1 : 0, 1);
                if (isStatic) calls.due(f + " is no real", f.getType() == double.class || f.getType() == float.class ? 1 : 0, 0);
            }
            calls.due(c + " has at most twenty fields", fields <= 20 ? 1 : 0, 1);
            for (Method m : c.getDeclaredMethods()) {
                calls.due(m + " has at most seven parameters", m.getParameterCount() <= 7 ? 1 : 0, 1);
                boolean shadows = c != QueryClasses.class || Modifier.isPrivate(m.getModifiers());
                if (shadows) calls.due(m + " has a name of its own", open.contains(m.getName()) ? 1 : 0, 0);
            }
        }
    }

    private static void source(String text) {
        String code = text.replaceAll("(?s)/\\*.*?\\*/", "").replaceAll("//[^\n]*", "").replaceAll("\"[^\"\n]*\"", "\"\"");
        for (String word : FORBIDDEN) {
            boolean letters = Character.isLetter(word.charAt(0));
            Matcher found = Pattern.compile(letters ? "\\b" + word : word).matcher(code);
            boolean there = false;
            while (found.find()) there |= !letters || found.end() >= code.length() || !Character.isJavaIdentifierPart(code.charAt(found.end())) || word.endsWith(".");
            calls.due("'" + word + "' in the source", there ? 1 : 0, 0);
        }
        for (char c : text.toCharArray()) {
            if (c > 255) calls.due("a character beyond 255", 1, 0);
        }
        int start = 0, line = 0;
        for (String l : text.split("\n")) {
            line++;
            if (l.matches(" {4,8}[^ /*].*\\) \\{")) start = line;
            if (l.matches(" {4,8}\\}")) calls.due("a method up to line " + line + " is short", line - start <= 60 || start == 0 ? 1 : 0, 1);
            if (l.matches(" {4,8}\\}")) start = 0;
        }
    }
}
