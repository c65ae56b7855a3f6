import java.io.IOException;
import java.lang.reflect.Constructor;
import java.lang.reflect.Field;
import java.lang.reflect.Method;
import java.lang.reflect.Modifier;
import java.nio.file.Files;
import java.nio.file.Path;
import java.util.ArrayList;
import java.util.HashSet;
import java.util.List;
import java.util.Set;
import java.util.TreeSet;
import java.util.regex.Matcher;
import java.util.regex.Pattern;

/** The face as the document lists it, and what rules of LANGUAGE.md can be seen from outside. */
public final class FaceTest {
    private static final Path DOCUMENT = Path.of("../shared/DOC.md");
    private static final Path SOURCE = Path.of("src/main/java/FormulaKiln.java");

    public static void main(String[] args) throws IOException {
        Kit.due("the face", face(), documentedFace());
        onlyTheFaceIsSeen();
        classesInside();
        text();
        methodLengths();
        Kit.end("FaceTest");
    }

    private static Set<String> documentedFace() throws IOException {
        Set<String> face = new TreeSet<>();
        Matcher line = Pattern.compile("(?m)^    (public .*);$").matcher(Files.readString(DOCUMENT));
        while (line.find()) {
            face.add(line.group(1).replaceAll("(int|char|boolean) \\w+([,)])", "$1$2"));
        }
        return face;
    }

    private static Set<String> face() {
        Set<String> face = new TreeSet<>();
        for (Constructor<?> constructor : FormulaKiln.class.getDeclaredConstructors()) {
            face.add("public FormulaKiln(" + names(constructor.getParameterTypes()) + ")");
        }
        for (Method method : FormulaKiln.class.getDeclaredMethods()) {
            if (Modifier.isPublic(method.getModifiers())) {
                String errors = names(method.getExceptionTypes());
                face.add("public " + method.getReturnType().getSimpleName() + " " + method.getName() + "("
                        + names(method.getParameterTypes()) + ")" + (errors.isEmpty() ? "" : " throws " + errors));
            }
        }
        return face;
    }

    private static String names(Class<?>[] types) {
        List<String> names = new ArrayList<>();
        for (Class<?> type : types) {
            names.add(type.getSimpleName());
        }
        return String.join(", ", names);
    }

    private static void onlyTheFaceIsSeen() {
        Set<String> seen = new HashSet<>();
        for (Method method : FormulaKiln.class.getDeclaredMethods()) {
            if (Modifier.isPublic(method.getModifiers())) {
                seen.add(method.getName());
            }
        }
        for (Class<?> type : allClasses()) {
            for (Method method : type.getDeclaredMethods()) {
                boolean isFace = type == FormulaKiln.class && Modifier.isPublic(method.getModifiers());
                Kit.due(method + " has a name of its own", isFace || !seen.contains(method.getName()), true);
                Kit.due(method + " is hidden", isFace || type != FormulaKiln.class
                        || Modifier.isPrivate(method.getModifiers()), true);
                Kit.due(method + " takes at most seven", method.getParameterCount() <= 7, true);
            }
        }
        for (Field field : FormulaKiln.class.getDeclaredFields()) {
            Kit.due(field + " is hidden", Modifier.isPrivate(field.getModifiers()), true);
        }
        Kit.due("the class is final", Modifier.isFinal(FormulaKiln.class.getModifiers()), true);
    }

    private static List<Class<?>> allClasses() {
        List<Class<?>> all = new ArrayList<>(List.of(FormulaKiln.class.getDeclaredClasses()));
        all.add(FormulaKiln.class);
        return all;
    }

    private static void classesInside() {
        Kit.due("at most twelve classes", allClasses().size() <= 12, true);
        for (Class<?> type : allClasses()) {
            int fields = 0;
            for (Field field : type.getDeclaredFields()) {
                fields += Modifier.isStatic(field.getModifiers()) ? 0 : 1;
                boolean isConstant = !Modifier.isStatic(field.getModifiers()) || Modifier.isFinal(field.getModifiers());
                Kit.due(field + " is no static state", isConstant, true);
            }
            Kit.due(type + " has at most twenty fields", fields <= 20, true);
            Kit.due(type + " is static", type == FormulaKiln.class || Modifier.isStatic(type.getModifiers()), true);
        }
    }

    private static void text() throws IOException {
        String source = Files.readString(SOURCE);
        String[] banned = {"->", "::", "finally", "synchronized", "assert ", "instanceof", "Exact(", "catch", "try ",
            "System.", "Object", "hashCode", "toString(", "Float.", "Double.", "package ", "\\u", "static {"};
        for (String word : banned) {
            Kit.due("no " + word, source.contains(word), false);
        }
        Kit.due("one import", source.split("\nimport ").length - 1 + (source.startsWith("import ") ? 1 : 0), 1);
        Kit.due("plain signs alone", source.chars().allMatch(sign -> sign < 127), true);
    }

    private static void methodLengths() throws IOException {
        List<String> lines = Files.readAllLines(SOURCE);
        for (int begin = 0; begin < lines.size(); begin++) {
            Matcher head = Pattern.compile("^( {4}| {8})(?!.*class )\\S.*\\) *(throws .*)?\\{$").matcher(lines.get(begin));
            if (head.matches()) {
                int end = begin;
                while (!lines.get(end).equals(head.group(1) + "}")) {
                    end++;
                }
                Kit.due("length of " + lines.get(begin).trim() + " " + (end - begin + 1), end - begin < 60, true);
            }
        }
    }
}
