import java.lang.reflect.Constructor;
import java.lang.reflect.Field;
import java.lang.reflect.Method;
import java.lang.reflect.Modifier;
import java.nio.file.Files;
import java.nio.file.Path;
import java.util.Arrays;
import java.util.Set;
import java.util.TreeSet;
import java.util.regex.Matcher;
import java.util.regex.Pattern;

/** The face of the class, and those rules of LANGUAGE.md that can be seen from the source text. */
public final class SourceTest {
    private static final Check CHECK = new Check();
    private static final Set<String> FACE = new TreeSet<>(Arrays.asList(
        "int feed(int,int,int,int,int)", "int end(int)", "int book()", "int fault(int)",
        "boolean flight(int,int,int,int,int)", "int told(int,int,int,int)", "int minutes(int,int,int)",
        "int fuel(int,int,int,int)", "int need(int)", "int legs(int)", "int leg(int,int,int)", "int time(int)",
        "int legal(int)", "int borne(int)", "int at(int,int,int)", "int home(int,int)", "int lastReturn(int,int)",
        "int carry(int,int,int)", "int about(int)"));

    private static void face() {
        Set<String> found = new TreeSet<>();
        Set<String> names = new TreeSet<>();
        for (Method method : FlightDesk.class.getDeclaredMethods()) {
            if (!Modifier.isPrivate(method.getModifiers())) {
                CHECK.due("public " + method, Modifier.isPublic(method.getModifiers()), true);
                StringBuilder types = new StringBuilder();
                for (Class<?> type : method.getParameterTypes()) {
                    types.append(types.length() == 0 ? "" : ",").append(type.getName());
                }
                found.add(method.getReturnType().getName() + " " + method.getName() + "(" + types + ")");
                names.add(method.getName());
            }
        }
        CHECK.due("the face " + found, found.equals(FACE), true);
        for (Field field : FlightDesk.class.getDeclaredFields()) {
            boolean isFace = field.getName().equals("NONE");
            CHECK.due("field " + field, Modifier.isPrivate(field.getModifiers()), !isFace);
        }
        Constructor<?>[] constructors = FlightDesk.class.getDeclaredConstructors();
        CHECK.due("constructors", constructors.length, 1);
        CHECK.due("final", Modifier.isFinal(FlightDesk.class.getModifiers()), true);
        inside(names);
    }

    private static void inside(Set<String> names) {
        Class<?>[] classes = FlightDesk.class.getDeclaredClasses();
        CHECK.due("at most twelve classes", classes.length < 12, true);
        for (Class<?> inner : classes) {
            CHECK.due(inner + " is static", Modifier.isStatic(inner.getModifiers()), true);
            CHECK.due(inner + " has at most twenty fields", instanceFields(inner) <= 20, true);
            for (Method method : inner.getDeclaredMethods()) {
                CHECK.due(method + " bears a name of the face", names.contains(method.getName()), false);
                CHECK.due(method + " has at most seven parameters", method.getParameterCount() <= 7, true);
            }
        }
        for (Method method : FlightDesk.class.getDeclaredMethods()) {
            boolean doubled = Modifier.isPrivate(method.getModifiers()) && names.contains(method.getName());
            CHECK.due(method + " bears a name of the face", doubled, false);
        }
    }

    private static int instanceFields(Class<?> inner) {
        int count = 0;
        for (Field field : inner.getDeclaredFields()) {
            if (!Modifier.isStatic(field.getModifiers())) {
                count++;
            } else {
                CHECK.due(field + " is final", Modifier.isFinal(field.getModifiers()), true);
            }
        }
        return count;
    }

    private static void words(String source) {
        String[] forbidden = {
            "throw", "throws", "try", "catch", "finally", "synchronized", "assert", "double", "float", "protected",
            "hashCode", "toString", "equals", "Exact", "native", "volatile", "transient", "package", "var",
        };
        for (String word : forbidden) {
            CHECK.due("has the word " + word, Pattern.compile("\\b" + word + "\\b").matcher(source).find(), false);
        }
        CHECK.due("a lambda", source.contains("->"), false);
        CHECK.due("a method reference", source.contains("::"), false);
        CHECK.due("a joined text", Pattern.compile("\"\\s*\\+|\\+\\s*\"").matcher(source).find(), false);
        Matcher imports = Pattern.compile("import ([\\w.]+);").matcher(source);
        while (imports.find()) {
            CHECK.due("import " + imports.group(1), imports.group(1).equals("java.util.Arrays"), true);
        }
        Matcher library = Pattern.compile("\\b(Math|Arrays|System|Integer|Long)\\.(\\w+)").matcher(source);
        Set<String> allowed = Set.of("Math.max", "Math.min", "Arrays.fill", "System.arraycopy");
        while (library.find()) {
            CHECK.due("uses " + library.group(), allowed.contains(library.group()), true);
        }
        for (int i = 0; i < source.length(); i++) {
            CHECK.due("sign at " + i, source.charAt(i) < 128, true);
        }
    }

    private static void lengths(String source) {
        int start = 0;
        String[] lines = source.split("\n");
        Pattern head = Pattern.compile("( {4}| {8})\\S.*\\) \\{");
        for (int i = 0; i < lines.length; i++) {
            if (head.matcher(lines[i]).matches()) {
                start = i;
            }
            if (lines[i].equals("    }") || lines[i].equals("        }")) {
                CHECK.due("the method up to line " + (i + 1) + " is short", i - start <= 60 || lines[i].equals("    }"), true);
            }
            CHECK.due("line " + (i + 1) + " is short", lines[i].length() <= 120, true);
        }
    }

    public static void main(String[] args) throws Exception {
        String source = Files.readString(Path.of("src/main/java/FlightDesk.java"));
        String code = source.replaceAll("(?s)/\\*.*?\\*/", "").replaceAll("//[^\n]*", "");
        face();
        words(code);
        lengths(source);
        CHECK.close();
    }
}
