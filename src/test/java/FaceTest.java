import java.io.IOException;
import java.lang.reflect.Constructor;
import java.lang.reflect.Field;
import java.lang.reflect.Method;
import java.lang.reflect.Modifier;
import java.nio.file.Files;
import java.nio.file.Path;
import java.util.ArrayList;
import java.util.List;
import java.util.Map;
import java.util.Set;
import java.util.TreeMap;
import java.util.TreeSet;
import java.util.regex.Matcher;
import java.util.regex.Pattern;

/** The public face as the document lists it, and the rules of LANGUAGE.md that a text can be searched for. */
public final class FaceTest {
    private static final Path DOCUMENT = Path.of("../shared/DOC.md");
    private static final Path PROGRAM = Path.of("src/main/java/Daytimepair.java");

    public static void main(String[] args) throws IOException {
        face();
        nothingElse();
        words();
        depth();
        Checks.end("FaceTest");
    }

    private static void face() throws IOException {
        Set<String> due = new TreeSet<>();
        String document = Files.readString(DOCUMENT);
        String block = document.substring(document.indexOf("```java"), document.indexOf("## Description"));
        Matcher line = Pattern.compile("public (\\w+) (\\w+)\\((.*?)\\)(?: throws (.*?))?;").matcher(block);
        while (line.find()) {
            String exceptions = line.group(4) == null ? "" : line.group(4);
            due.add(line.group(1) + " " + line.group(2) + "(" + line.group(3).replaceAll(" \\w+(,|$)", "$1") + ") "
                    + exceptions);
        }
        Checks.due("methods in the document", due.size(), 56);
        Set<String> got = new TreeSet<>();
        for (Method method : Daytimepair.class.getDeclaredMethods()) {
            if (Modifier.isPublic(method.getModifiers())) {
                got.add(method.getReturnType().getSimpleName() + " " + method.getName() + "("
                        + names(method.getParameterTypes()) + ") " + names(method.getExceptionTypes()));
            }
        }
        Checks.due("face", got.toString(), due.toString());
        Checks.due("class", Modifier.toString(Daytimepair.class.getModifiers()), "public final");
        Constructor<?>[] made = Daytimepair.class.getDeclaredConstructors();
        Checks.due("constructors", made.length + " " + made[0].getParameterCount() + " "
                + Modifier.toString(made[0].getModifiers()), "1 0 public");
    }

    private static String names(Class<?>[] types) {
        List<String> names = new ArrayList<>();
        for (Class<?> type : types) {
            names.add(type.getSimpleName());
        }
        return String.join(", ", names);
    }

    private static void nothingElse() {
        Set<String> open = new TreeSet<>();
        for (Method method : Daytimepair.class.getDeclaredMethods()) {
            if (Modifier.isPublic(method.getModifiers())) {
                open.add(method.getName());
            }
        }
        for (Method method : Daytimepair.class.getDeclaredMethods()) {
            if (!Modifier.isPublic(method.getModifiers())) {
                Checks.due(method.getName() + " is private", Modifier.isPrivate(method.getModifiers()), true);
                Checks.due(method.getName() + " bears a public name", open.contains(method.getName()), false);
            }
            Checks.due(method.getName() + " has few parameters", method.getParameterCount() <= 7, true);
        }
        int state = 0;
        for (Field field : Daytimepair.class.getDeclaredFields()) {
            int modifiers = field.getModifiers();
            Checks.due(field.getName() + " is private", Modifier.isPrivate(modifiers), true);
            Checks.due(field.getName() + " is no changing static", !Modifier.isStatic(modifiers)
                    || Modifier.isFinal(modifiers), true);
            state += Modifier.isStatic(modifiers) ? 0 : 1;
        }
        Checks.due("fields are few", state <= 20, true);
    }

    private static void words() throws IOException {
        String text = Files.readString(PROGRAM);
        for (String word : new String[] {"package ", "->", "::", "finally", "synchronized", "assert ", "Exact(",
            "getMessage", "\" +", "+ \"", "NaN", "extends Exception", "extends RuntimeException"}) {
            Checks.due("the program holds " + word, text.contains(word), false);
        }
        Set<String> imports = Set.of("java.util.ArrayList", "java.util.List", "java.util.Arrays", "java.util.Iterator",
                "java.util.NoSuchElementException");
        Matcher line = Pattern.compile("import (.*?);").matcher(text);
        while (line.find()) {
            Checks.due("may be imported: " + line.group(1), imports.contains(line.group(1)), true);
        }
        Checks.due("System for arraycopy alone", text.replace("System.arraycopy", "").contains("System."), false);
        for (int i = 0; i < text.length(); i++) {
            if (text.charAt(i) > 126) {
                Checks.due("a sign of the program", text.charAt(i), "one of 1 to 126");
            }
        }
    }

    /** Methods by their names (no two bear one), each with the lines of its body. */
    private static Map<String, String> bodies() throws IOException {
        Map<String, String> bodies = new TreeMap<>();
        String name = null;
        StringBuilder body = new StringBuilder();
        Pattern head = Pattern.compile("    (?:public|private) .*?(\\w+)\\(.*");
        for (String line : Files.readAllLines(PROGRAM)) {
            Matcher method = head.matcher(line);
            if (method.matches() && !line.endsWith(";")) {
                name = method.group(1);
                body.setLength(0);
            } else if (name != null && line.equals("    }")) {
                bodies.put(name, body.toString());
                name = null;
            } else {
                body.append(line).append('\n');
            }
        }
        return bodies;
    }

    // Rule 11: "Methods stay short (some sixty lines), calls that are no recursion go at most eight deep"
    private static void depth() throws IOException {
        Map<String, String> bodies = bodies();
        Checks.due("methods are found", bodies.containsKey("digest"), true);
        for (String name : bodies.keySet()) {
            Checks.due(name + " is short", bodies.get(name).split("\n").length <= 60, true);
            int deep = depthOf(name, bodies, "");
            Checks.due(name + " calls at most eight deep, and is " + deep, deep <= 8, true);
        }
    }

    /** The library's own methods count too; what they call does not, nor does a method that is open already. */
    private static int depthOf(String name, Map<String, String> bodies, String open) {
        if (open.contains(" " + name + " ")) {
            return 0;
        }
        int deepest = 0;
        Matcher call = Pattern.compile("(\\w+)\\(").matcher(bodies.getOrDefault(name, ""));
        while (call.find()) {
            deepest = Math.max(deepest, depthOf(call.group(1), bodies, open + " " + name + " "));
        }
        return deepest + 1;
    }
}
