import java.io.IOException;
import java.lang.reflect.Constructor;
import java.lang.reflect.Field;
import java.lang.reflect.Method;
import java.lang.reflect.Modifier;
import java.nio.file.Files;
import java.nio.file.Path;
import java.util.Arrays;
import java.util.Set;
import java.util.TreeSet;
import java.util.regex.Matcher;
import java.util.regex.Pattern;

/**
 * The face of the class is the one in ../shared/DOC.md, and the rules of ../shared/LANGUAGE.md that
 * can be seen from the class or from the words of its source hold.
 */
public final class FaceTest {
    private static int wrong = 0;

    public static void main(String[] args) throws IOException {
        faceIsTheDocuments(Files.readString(Path.of("../shared/DOC.md")));
        classesInside();
        words(Files.readString(Path.of("src/main/java/FrameClay.java")));
        System.out.println(wrong == 0 ? "the face is the document's" : wrong + " faults of the face");
        if (wrong != 0) {
            System.exit(1);
        }
    }

    private static void need(boolean is, String what) {
        if (!is) {
            wrong++;
            System.out.println(what);
        }
    }

    private static Set<String> lines(String java) {
        Set<String> lines = new TreeSet<>();
        for (String line : java.split("\n")) {
            if (line.startsWith("    public ")) {
                lines.add(line.trim().replaceAll("[ ;{]*$", ""));
            }
        }
        return lines;
    }

    private static String names(Class<?>[] types) {
        StringBuilder names = new StringBuilder();
        for (Class<?> type : types) {
            names.append(names.length() == 0 ? "" : ", ").append(type.getSimpleName());
        }
        return names.toString();
    }

    private static String face(Method m) {
        String of = m.getExceptionTypes().length == 0 ? "" : " throws " + names(m.getExceptionTypes());
        return "public " + m.getReturnType().getSimpleName() + " " + m.getName() + "(" + names(m.getParameterTypes()) + ")" + of;
    }

    private static void faceIsTheDocuments(String doc) {
        int from = doc.indexOf("```java");
        Set<String> want = new TreeSet<>();
        for (String line : lines(doc.substring(from, doc.indexOf("```", from + 3)))) {
            want.add(line.replaceAll("(int|boolean) \\w+([,)])", "$1$2"));
        }
        Set<String> got = new TreeSet<>();
        Set<String> publicNames = new TreeSet<>();
        for (Method m : FrameClay.class.getDeclaredMethods()) {
            if (!Modifier.isPrivate(m.getModifiers())) {
                got.add(face(m));
                publicNames.add(m.getName());
            }
        }
        for (Constructor<?> c : FrameClay.class.getDeclaredConstructors()) {
            got.add("public FrameClay(" + names(c.getParameterTypes()) + ")");
        }
        for (Field f : FrameClay.class.getDeclaredFields()) {
            if (!Modifier.isPrivate(f.getModifiers())) {
                got.add(Modifier.toString(f.getModifiers()) + " int " + f.getName() + " = " + FrameClay.NONE);
            }
        }
        need(got.equals(want), "the face is\n" + got + "\ninstead of\n" + want);
        need(Modifier.toString(FrameClay.class.getModifiers()).equals("public final"), "not public final");
        for (Method m : FrameClay.class.getDeclaredMethods()) {
            need(!Modifier.isPrivate(m.getModifiers()) || !publicNames.contains(m.getName()), m + " bears a public name");
        }
    }

    private static void classesInside() {
        Class<?>[] inside = FrameClay.class.getDeclaredClasses();
        need(inside.length <= 11, "more than 12 classes");
        for (Class<?> c : inside) {
            int modifiers = c.getModifiers();
            need(Modifier.isStatic(modifiers) && !Modifier.isPublic(modifiers) && !Modifier.isProtected(modifiers), c + " is not as rule 1 says");
            for (Method m : c.getDeclaredMethods()) {
                need(!Modifier.isPublic(m.getModifiers()), m + " is public");
            }
        }
        for (Class<?> c : inside) {
            needFewFields(c);
        }
        needFewFields(FrameClay.class);
    }

    private static void needFewFields(Class<?> c) {
        long fields = Arrays.stream(c.getDeclaredFields()).filter(f -> !Modifier.isStatic(f.getModifiers())).count();
        need(fields <= 20, c + " has " + fields + " fields");
        for (Field f : c.getDeclaredFields()) {
            need(!Modifier.isStatic(f.getModifiers()) || Modifier.isFinal(f.getModifiers()), f + " is static, not final");
        }
    }

    private static void words(String source) {
        String code = source.replaceAll("(?s)/\\*.*?\\*/", "").replaceAll("//[^\n]*", "").replaceAll("\"[^\"\n]*\"", "\"\"");
        String[] never = {"->", "::", "import", "package", "finally", "catch", "synchronized", "assert", "instanceof",
            "hashCode", "toString", "static \\{", "Exact", "double", "float", "System\\.", "Random", "Thread"};
        for (String word : never) {
            need(!Pattern.compile(word).matcher(code).find(), "the source says " + word);
        }
        Matcher thrown = Pattern.compile("throw [^;]*;").matcher(code);
        while (thrown.find()) {
            String allowed = "throw new (IllegalState|IllegalArgument|IndexOutOfBounds)Exception\\(\"\"\\);";
            need(thrown.group().matches(allowed), "against rule 6: " + thrown.group());
        }
        need(source.chars().allMatch(c -> c == '\n' || c >= 32 && c < 127), "a sign that is not plain");
        for (String method : code.split("\n    \\}|\n        \\}")) {
            need(method.split("\n").length <= 75, "a long method: " + method);
        }
    }
}
