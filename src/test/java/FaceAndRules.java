import java.lang.reflect.Constructor;
import java.lang.reflect.Field;
import java.lang.reflect.Method;
import java.lang.reflect.Modifier;
import java.nio.file.Files;
import java.nio.file.Path;
import java.util.Arrays;
import java.util.Set;
import java.util.TreeSet;
import java.util.regex.Matcher;
import java.util.regex.Pattern;

/** The public face is the document's, and the file keeps to those rules of LANGUAGE.md that can be seen from its text. */
public final class FaceAndRules {
    private static final String[] FACE = {
        "task()", "restart()", "missing(int,boolean)", "put(int,int)", "cell(int)", "feed(int)", "clear()",
        "program(int)", "statement(int,int,int)", "step(int)", "run(int,int)", "follow(int,int,int)", "of(int,int)",
        "gate(int,int)", "stands(int,int,int)", "are(int)", "told(int)", "cause(int,int)", "found(int)",
        "schedule(int,int)", "lay(int,int,int)", "outcome(int,int)", "under(int)", "round()",
        "condition(int,int,int)", "holds()", "list(int,int)", "set(int,int,int)", "get(int,int)", "image()", "back()"
    };
    private static int wrong = 0;

    private static void due(String what, Object got, Object want) {
        if (!got.equals(want)) {
            wrong++;
            System.out.println(what + ": " + got + ", due is " + want);
        }
    }

    private static String told(Method m) {
        StringBuilder s = new StringBuilder(m.getName()).append('(');
        for (Class<?> c : m.getParameterTypes()) {
            s.append(s.charAt(s.length() - 1) == '(' ? "" : ",").append(c.getName());
        }
        return s.append(')').toString();
    }

    private static void face() {
        Set<String> methods = new TreeSet<>();
        Set<String> names = new TreeSet<>();
        for (Method m : GateTurns.class.getDeclaredMethods()) {
            if (!Modifier.isPrivate(m.getModifiers())) {
                methods.add(told(m));
                names.add(m.getName());
                due(m.getName() + " is public", Modifier.isPublic(m.getModifiers()), true);
                due(m.getName() + " answers", m.getReturnType(), int.class);
                due(m.getName() + " is static", Modifier.isStatic(m.getModifiers()), false);
            }
        }
        due("methods", methods, new TreeSet<>(Arrays.asList(FACE)));
        for (Method m : GateTurns.class.getDeclaredMethods()) {
            if (Modifier.isPrivate(m.getModifiers())) {
                due("private " + m.getName() + " bears a public name", names.contains(m.getName()), false);
            }
        }
        Set<String> fields = new TreeSet<>();
        for (Field f : GateTurns.class.getDeclaredFields()) {
            if (!Modifier.isPrivate(f.getModifiers())) {
                fields.add(f.getName());
            }
        }
        due("constants", fields.toString(), "[BAD, FULL, NONE, STATE]");
        Constructor<?>[] made = GateTurns.class.getDeclaredConstructors();
        due("constructors", made.length, 1);
        due("its parameters", made[0].getParameterCount(), 0);
        due("it is public", Modifier.isPublic(made[0].getModifiers()), true);
        due("the class is final", Modifier.isFinal(GateTurns.class.getModifiers()), true);
    }

    private static boolean isOfFace(String name) {
        return Arrays.stream(FACE).anyMatch(call -> call.startsWith(name + "("));
    }

    private static void classesInside() {
        Class<?>[] inside = GateTurns.class.getDeclaredClasses();
        due("at most twelve classes", inside.length + 1 <= 12, true);
        for (Class<?> c : inside) {
            due(c.getName() + " is static", Modifier.isStatic(c.getModifiers()), true);
            int fields = 0;
            for (Field f : c.getDeclaredFields()) {
                boolean isStatic = Modifier.isStatic(f.getModifiers());
                due(f + " is final if static", !isStatic || Modifier.isFinal(f.getModifiers()), true);
                fields += isStatic ? 0 : 1;
            }
            due(c.getName() + " has at most twenty fields", fields <= 20, true);
            for (Method m : c.getDeclaredMethods()) {
                due(m + " has at most seven parameters", m.getParameterCount() <= 7, true);
                due(m + " bears a public name", isOfFace(m.getName()), false);
            }
        }
    }

    private static void text() throws Exception {
        String source = Files.readString(Path.of("src/main/java/GateTurns.java"));
        String code = source.replaceAll("(?s)/\\*.*?\\*/", " ").replaceAll("//[^\n]*", " ");
        String[] ruledOut = {"throw", "throws", "try", "catch", "finally", "synchronized", "assert", "package",
            "Object", "HashMap", "hashCode", "toString", "Random", "System\\.(?!arraycopy)", "Thread", "->", "::",
            "[a-zA-Z]+Exact"};
        for (String word : ruledOut) {
            Matcher m = Pattern.compile(word.matches("\\w+") ? "\\b" + word + "\\b" : word).matcher(code);
            due("the text has " + word, m.find(), false);
        }
        Matcher imports = Pattern.compile("(?m)^import (.*);").matcher(code);
        while (imports.find()) {
            due("an import", Set.of("java.util.Arrays", "java.util.ArrayList", "java.util.List")
                    .contains(imports.group(1)), true);
        }
        due("all signs are 1 to 127", source.chars().allMatch(c -> c > 0 && c < 128), true);
    }

    public static void main(String[] args) throws Exception {
        face();
        classesInside();
        text();
        System.out.println(wrong == 0 ? "the face and the rules hold" : wrong + " are not as due");
        if (wrong != 0) {
            System.exit(1);
        }
    }
}
