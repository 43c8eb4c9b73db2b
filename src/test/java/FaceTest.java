import java.io.IOException;
import java.lang.reflect.Constructor;
import java.lang.reflect.Field;
import java.lang.reflect.Method;
import java.lang.reflect.Modifier;
import java.nio.file.Files;
import java.nio.file.Path;
import java.util.Arrays;
import java.util.List;
import java.util.TreeSet;
import java.util.regex.Matcher;
import java.util.regex.Pattern;

/** The public face is the document's, and the file keeps to the rules of LANGUAGE.md that a look at it can tell. */
public final class FaceTest {
    private static final String[] FACE = {
        "int row(int,int,int)", "int gone(int,int,int)", "int cell(int,int,int,int,long)",
        "int empty(int,int,int,int)", "int column(int,int,int)", "int drop(int,int,int)",
        "int retype(int,int,int,int,int)", "int move(int,int,int,int)", "int branch(int,int)", "int at(int)",
        "int merge(int,int,int)", "int clash(int,int)", "int base(int,int)", "int version(int,int)",
        "int columnOf(int,int,int)", "int rowOf(int,int,int)", "int has(int,int,int)", "long value(int,int,int)",
        "int madeBy(int,int,int)", "int differences(int,int)", "int difference(int,int,int,int)", "int count(int)",
    };
    private static final List<String> FORBIDDEN = List.of("throw", "try", "catch", "synchronized", "assert",
        "Exception", "Random", "System.currentTimeMillis", "System.nanoTime", "Thread", "File", "->", "::");

    private static final List<String> LIBRARY = List.of("Math.min", "Math.max", "Math.abs", "Arrays.fill",
        "Arrays.copyOf", "Arrays.copyOfRange", "System.arraycopy");

    public static void main(String[] args) throws IOException {
        Due due = new Due();
        checkClass(due);
        checkMethods(due);
        checkFields(due);
        checkInside(due);
        checkText(due);
        due.end();
    }

    private static void checkClass(Due due) {
        int modifiers = TableHistories.class.getModifiers();
        due.isTrue("public final class", Modifier.isPublic(modifiers) && Modifier.isFinal(modifiers));
        Constructor<?>[] made = TableHistories.class.getDeclaredConstructors();
        due.is("constructors", made.length, 1);
        due.isTrue("public constructor without parameters",
            Modifier.isPublic(made[0].getModifiers()) && made[0].getParameterCount() == 0);
    }

    private static void checkMethods(Due due) {
        TreeSet<String> seen = new TreeSet<>();
        TreeSet<String> publicNames = new TreeSet<>();
        for (Method method : TableHistories.class.getDeclaredMethods()) {
            if (!Modifier.isPrivate(method.getModifiers())) {
                due.isTrue(method + " is public and of the object",
                    Modifier.isPublic(method.getModifiers()) && !Modifier.isStatic(method.getModifiers()));
                seen.add(signature(method));
                publicNames.add(method.getName());
            }
        }
        due.isTrue("methods " + seen, seen.equals(new TreeSet<>(Arrays.asList(FACE))));
        for (Method method : TableHistories.class.getDeclaredMethods()) {
            if (Modifier.isPrivate(method.getModifiers())) {
                due.isTrue(method + " has a name of its own", !publicNames.contains(method.getName()));
            }
        }
    }

    private static String signature(Method method) {
        StringBuilder text = new StringBuilder(method.getReturnType().getName() + " " + method.getName() + "(");
        for (Class<?> type : method.getParameterTypes()) {
            text.append(text.charAt(text.length() - 1) == '(' ? "" : ",").append(type.getName());
        }
        return text.append(")").toString();
    }

    private static void checkFields(Due due) {
        TreeSet<String> open = new TreeSet<>();
        for (Field field : TableHistories.class.getDeclaredFields()) {
            int modifiers = field.getModifiers();
            if (!Modifier.isPrivate(modifiers)) {
                due.isTrue(field + " is a constant", Modifier.isStatic(modifiers) && Modifier.isFinal(modifiers));
                open.add(field.getName());
            }
            due.isTrue(field + " is no static state", !Modifier.isStatic(modifiers) || Modifier.isFinal(modifiers));
        }
        due.isTrue("constants " + open, open.equals(new TreeSet<>(List.of("BAD", "NO", "FULL", "NONE"))));
        due.is("BAD", TableHistories.BAD, -1);
        due.is("NO", TableHistories.NO, -2);
        due.is("FULL", TableHistories.FULL, -3);
        due.is("NONE", TableHistories.NONE, -4);
    }

    private static void checkInside(Due due) {
        Class<?>[] inside = TableHistories.class.getDeclaredClasses();
        due.isTrue("at most twelve classes", inside.length + 1 <= 12);
        for (Class<?> one : inside) {
            int modifiers = one.getModifiers();
            due.isTrue(one + " is static", Modifier.isStatic(modifiers));
            due.isTrue(one + " is not open", !Modifier.isPublic(modifiers) && !Modifier.isProtected(modifiers));
            due.isTrue(one + " has at most twenty fields", one.getDeclaredFields().length <= 20);
            for (Field field : one.getDeclaredFields()) {
                due.isTrue(field + " is no static state", !Modifier.isStatic(field.getModifiers()));
            }
            for (Method method : one.getDeclaredMethods()) {
                due.isTrue(method + " takes at most seven", method.getParameterCount() <= 7);
                due.isTrue(method + " has a name of its own", !isOfTheFace(method.getName()));
            }
            due.is(one + " has classes inside", one.getDeclaredClasses().length, 0);
        }
    }

    private static boolean isOfTheFace(String name) {
        return Arrays.stream(FACE).anyMatch(method -> method.contains(" " + name + "("));
    }

    private static void checkText(Due due) throws IOException {
        String text = Files.readString(Path.of("src/main/java/TableHistories.java"));
        String code = text.replaceAll("(?s)/\\*.*?\\*/", " ").replaceAll("//[^\n]*", " ");
        for (String word : FORBIDDEN) {
            String edge = Character.isLetter(word.charAt(0)) ? "\\b" : "";
            boolean found = Pattern.compile(edge + Pattern.quote(word) + edge).matcher(code).find();
            due.isTrue("no '" + word + "' in the code", !found);
        }
        Matcher imports = Pattern.compile("import ([\\w.]+);").matcher(code);
        while (imports.find()) {
            due.isTrue("import " + imports.group(1),
                List.of("java.util.Arrays", "java.util.ArrayList", "java.util.List").contains(imports.group(1)));
        }
        due.isTrue("no package", !Pattern.compile("(?m)^package ").matcher(code).find());
        checkLibrary(due, code);
        checkLengths(due, text.split("\n"));
    }

    /** Calls by the name of a class: only those of the library that the rules list. */
    private static void checkLibrary(Due due, String code) {
        Matcher calls = Pattern.compile("\\b([A-Z]\\w*\\.\\w+)\\(").matcher(code);
        while (calls.find()) {
            due.isTrue("library: " + calls.group(1), LIBRARY.contains(calls.group(1)));
        }
    }

    /** A method goes from a line that opens it to the next line that has its closing bracket just as far in. */
    private static void checkLengths(Due due, String[] lines) {
        Pattern opening = Pattern.compile("( {4}| {8})(?!.*\\bclass\\b)\\S.*\\) \\{");
        int methods = 0;
        for (int i = 0; i < lines.length; i++) {
            Matcher start = opening.matcher(lines[i]);
            if (start.matches()) {
                int end = i;
                while (end < lines.length - 1 && !lines[end].equals(start.group(1) + "}")) {
                    end++;
                }
                methods++;
                due.isTrue("at most sixty lines: " + lines[i].trim(), end - i < 60);
            }
        }
        due.isTrue("methods are seen", methods > FACE.length);
    }
}
