import java.io.IOException;
import java.lang.reflect.Array;
import java.lang.reflect.Constructor;
import java.lang.reflect.Field;
import java.lang.reflect.Method;
import java.lang.reflect.Modifier;
import java.nio.file.Files;
import java.nio.file.Path;
import java.util.ArrayList;
import java.util.Collections;
import java.util.IdentityHashMap;
import java.util.List;
import java.util.Set;
import java.util.TreeSet;
import java.util.regex.Matcher;
import java.util.regex.Pattern;

/**
 * The class has the document's face and nothing else that can be seen, its file keeps to those rules of LANGUAGE.md
 * that show in its text, and all that it ever makes is made with the court. Arguments: the class's file, DOC.md.
 */
public final class LanguageTest {
    private static final String[] BANNED = {
        "->", "::", "\\bcatch\\b", "\\bfinally\\b", "\\btry\\b", "\\bassert\\b", "\\bsynchronized\\b", "Exact\\(",
        "\\bstatic \\{", "\" \\+", "\\+ \"", "\\bpackage\\b", "\\bvar\\b", "\\bObject\\b", "Exception\\([^\")]",
        "\\bhashCode\\b", "\\btoString\\b", "\\bequals\\b", "\\bThread\\b", "while \\(true\\)", "for \\(;;\\)"};

    private static final String LIBRARY = "(Math|Integer|Long)\\.(abs|min|max|compare|bitCount|floorDiv|floorMod)"
        + "|System\\.arraycopy|Arrays\\.(copyOf|copyOfRange|fill)";
    /** Far below what one room holds, so that a run may make some hundred courts. */
    private static final int MOST_OBJECTS = 100;
    private static final int MOST_PLACES = 5000;

    private static int failed;

    private static void note(boolean right, String what) {
        if (right) return;
        failed++;
        System.out.println(what);
    }

    private static String typeName(Class<?> type) {
        return type.getSimpleName();
    }

    private static String headOf(Method method) {
        StringBuilder head = new StringBuilder("public " + typeName(method.getReturnType()) + " " + method.getName());
        head.append('(');
        for (Class<?> type : method.getParameterTypes()) head.append(typeName(type)).append(' ');
        head.append(") throws ");
        for (Class<?> type : method.getExceptionTypes()) head.append(typeName(type)).append(' ');
        return head.toString();
    }

    private static String headOf(String line) {
        Matcher m = Pattern.compile("public (\\w+) (\\w+)\\(([^)]*)\\)(?: throws ([^;]*))?;").matcher(line);
        if (!m.matches()) return null;
        StringBuilder head = new StringBuilder("public " + m.group(1) + " " + m.group(2) + "(");
        for (String p : m.group(3).split(", ")) if (!p.isEmpty()) head.append(p.split(" ")[0]).append(' ');
        head.append(") throws ");
        if (m.group(4) != null) for (String e : m.group(4).split(", ")) head.append(e).append(' ');
        return head.toString();
    }

    private static void face(String document) {
        Set<String> due = new TreeSet<>();
        for (String line : document.split("\n")) {
            String head = headOf(line.trim());
            if (head != null) due.add(head);
        }
        Set<String> got = new TreeSet<>();
        Set<String> names = new TreeSet<>();
        for (Method method : Stonecourt.class.getDeclaredMethods()) {
            if (Modifier.isPublic(method.getModifiers())) {
                got.add(headOf(method));
                names.add(method.getName());
            }
        }
        note(due.size() == 41 && got.equals(due), "the face is " + got + ", due is " + due);
        note(Modifier.isFinal(Stonecourt.class.getModifiers()), "the class is not final");
        Constructor<?>[] made = Stonecourt.class.getDeclaredConstructors();
        note(made.length == 1 && Modifier.isPublic(made[0].getModifiers()), "the constructors");
        List<Class<?>> all = new ArrayList<>(List.of(Stonecourt.class.getDeclaredClasses()));
        for (Class<?> inner : all) note(Modifier.isStatic(inner.getModifiers()), inner + " is not static");
        all.add(Stonecourt.class);
        note(all.size() <= 12, "there are " + all.size() + " classes");
        for (Class<?> one : all) members(one, names);
    }

    private static void members(Class<?> one, Set<String> names) {
        int fields = 0;
        for (Field field : one.getDeclaredFields()) {
            boolean constant = Modifier.isStatic(field.getModifiers());
            note(Modifier.isPrivate(field.getModifiers()), field + " is not private");
            note(!constant || Modifier.isFinal(field.getModifiers()), field + " is not final");
            if (!constant) fields++;
        }
        note(fields <= 20, one + " has " + fields + " fields");
        for (Method method : one.getDeclaredMethods()) {
            if (one == Stonecourt.class && Modifier.isPublic(method.getModifiers())) continue;
            note(one != Stonecourt.class || Modifier.isPrivate(method.getModifiers()), method + " is not private");
            note(!names.contains(method.getName()), method + " has the name of a public one");
            note(method.getParameterCount() <= 7, method + " has too many parameters");
        }
    }

    private static void text(String file) {
        String code = file.replaceAll("(?s)/\\*.*?\\*/", "").replaceAll("//[^\n]*", "");
        for (String banned : BANNED) {
            Matcher m = Pattern.compile(banned).matcher(code);
            note(!m.find(), "the file has " + banned);
        }
        note(code.replaceAll("(?s).*?import ([^;]*);|.*", "$1").equals("java.util.NoSuchElementException"), "imports");
        note(file.chars().allMatch(c -> c == '\n' || c >= 32 && c < 127), "the file has strange signs");
        methodLengths(file.split("\n"));
        library(code);
        for (String line : code.split("\n")) {
            boolean makes = line.matches(".*\\bnew\\b.*");
            boolean once = line.matches(" +private final \\S+ \\w+ = new .*") || line.matches(" +throw new .*");
            note(!makes || once, "an object that is not made with the court: " + line.trim());
        }
    }

    private static void library(String code) {
        Matcher m = Pattern.compile("\\b(Math|Integer|Long|Character|Boolean|Double|Float|String|System|Arrays)\\.\\w+")
            .matcher(code);
        while (m.find()) note(m.group().matches(LIBRARY), "the file uses " + m.group());
    }

    /** What hangs on an object: objects and arrays first, then fields and elements. */
    private static void weigh(Object object, Set<Object> seen, int[] sum) throws IllegalAccessException {
        if (object == null || object instanceof String || !seen.add(object)) return;
        sum[0]++;
        if (object.getClass().isArray()) {
            sum[1] += Array.getLength(object);
            for (int i = 0; object instanceof Object[] row && i < row.length; i++) weigh(row[i], seen, sum);
            return;
        }
        for (Field field : object.getClass().getDeclaredFields()) {
            if (Modifier.isStatic(field.getModifiers())) continue;
            sum[1]++;
            field.setAccessible(true);
            if (!field.getType().isPrimitive()) weigh(field.get(object), seen, sum);
        }
    }

    /** With no other objects made than with the court, this is all that a run takes of its room. */
    private static void room() throws IllegalAccessException {
        int[] sum = new int[2];
        weigh(new Stonecourt(), Collections.newSetFromMap(new IdentityHashMap<>()), sum);
        boolean light = sum[0] <= MOST_OBJECTS && sum[1] <= MOST_PLACES;
        note(light, "a court has " + sum[0] + " objects and " + sum[1] + " places");
    }

    /** From a line that opens a method to the brace that stands below its first sign. */
    private static void methodLengths(String[] lines) {
        for (int first = 0; first < lines.length; first++) {
            Matcher m = Pattern.compile("(    |        )[a-z][\\w\\[\\] ]* \\w+\\(.*").matcher(lines[first]);
            if (!m.matches() || lines[first].endsWith(";")) continue;
            int last = first;
            while (last < lines.length && !lines[last].equals(m.group(1) + "}")) last++;
            note(last - first < 60, "a method is too long: " + lines[first]);
        }
    }

    public static void main(String[] arguments) throws IOException, IllegalAccessException {
        text(Files.readString(Path.of(arguments[0])));
        face(Files.readString(Path.of(arguments[1])));
        room();
        System.out.println(failed == 0 ? "the face and the text are as due" : failed + " faults of face and text");
        if (failed != 0) System.exit(1);
    }
}
