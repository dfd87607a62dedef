import java.io.IOException;
import java.lang.reflect.InvocationTargetException;
import java.net.URL;
import java.net.URLClassLoader;
import java.nio.file.Files;
import java.nio.file.Path;
import java.util.ArrayList;
import java.util.List;
import java.util.regex.Matcher;
import java.util.regex.Pattern;
import javax.tools.ToolProvider;

/**
 * What README.md shows of calls and answers is what the class does: each of its Java blocks is compiled
 * as it stands, and run, with a look at each line that says "// answers .." or "// throws ..".
 */
public final class ReadmeTest {
    private static final Pattern BLOCK = Pattern.compile("(?s)```java\n(.*?)```");
    private static final Pattern SAYS = Pattern.compile("^(.*?;) *// (answers|throws) ([^:]*?)(: .*)?$");
    private static final Pattern CALL = Pattern.compile("\\bclay\\.(\\w+)\\(");
    private static final String NAME = "ReadmeBlocks";
    private static final int FEWEST_SAID = 30;

    private static int looked = 0;
    private static int wrong = 0;

    public static void main(String[] args) throws IOException, ReflectiveOperationException {
        String readme = Files.readString(Path.of("README.md"));
        StringBuilder source = new StringBuilder("public final class " + NAME + " {\n");
        List<String> blocks = new ArrayList<>();
        for (Matcher block = BLOCK.matcher(readme); block.find();) {
            blocks.add(block.group(1));
            source.append("public static void block" + blocks.size() + "() {\n").append(looking(block.group(1))).append("}\n");
        }
        run(source.append("}\n").toString(), blocks.size());
        need(looked >= FEWEST_SAID, "README.md says too few answers to be of use: " + looked);
        everyCallIsThere(readme);
        namesEveryTest(readme);
        System.out.println(wrong + " of " + looked + " answers in README.md are not as it says");
        System.exit(wrong == 0 ? 0 : 1);
    }

    private static void need(boolean is, String what) {
        if (!is) {
            wrong++;
            System.out.println(what);
        }
    }

    // ---- a block with a look behind each line that says something

    private static String looking(String block) {
        StringBuilder java = new StringBuilder();
        for (String line : block.split("\n")) {
            Matcher says = SAYS.matcher(line);
            if (!says.matches()) {
                need(!line.matches(".*// *(answers|throws).*"), "unreadable: " + line);
                java.append(line);
            } else if (says.group(2).equals("answers")) {
                java.append(answers(says.group(1), says.group(3)));
            } else {
                java.append(throwsIt(says.group(1), says.group(3), says.group(4)));
            }
            java.append('\n');
        }
        return java.toString();
    }

    private static String answers(String statement, String due) {
        String want = due.replace("NONE", "FrameClay.NONE");
        Matcher declares = Pattern.compile("^ *(int|boolean) (\\w+) = .*$").matcher(statement);
        if (declares.matches()) {
            return statement + look(statement, declares.group(2), want);
        }
        return look(statement, statement.trim().replaceAll(";$", ""), want);
    }

    private static String look(String statement, String expression, String want) {
        return "ReadmeTest.due(" + quoted(statement) + ", \"\" + (" + expression + "), \"\" + " + want + ");";
    }

    private static String throwsIt(String statement, String name, String text) {
        String want = text == null ? name : name + text;
        String got = text == null ? "e.getClass().getSimpleName()" : "e.getClass().getSimpleName() + \": \" + e.getMessage()";
        return "{ String thrown = \"nothing\"; try { " + statement + " } catch (RuntimeException e) { thrown = " + got + "; }"
            + " ReadmeTest.due(" + quoted(statement) + ", thrown, " + quoted(want) + "); }";
    }

    private static String quoted(String text) {
        return "\"" + text.trim().replace("\"", "\\\"") + "\"";
    }

    public static void due(String statement, String got, String want) {
        looked++;
        need(got.equals(want), "README.md: " + statement + " answered " + got + ", it says " + want);
    }

    // ---- compiling and running

    private static void run(String source, int blocks) throws IOException, ReflectiveOperationException {
        Path folder = Files.createTempDirectory(Files.createDirectories(Path.of("build")), "readme");
        Path file = Files.writeString(folder.resolve(NAME + ".java"), source);
        String classes = System.getProperty("java.class.path");
        int compiled = ToolProvider.getSystemJavaCompiler()
            .run(null, null, null, "--release", "17", "-cp", classes, "-d", folder.toString(), file.toString());
        need(compiled == 0, "README.md does not compile");
        if (compiled != 0) {
            return;
        }
        try (URLClassLoader loader = new URLClassLoader(new URL[] {folder.toUri().toURL()})) {
            for (int block = 1; block <= blocks; block++) {
                run(loader.loadClass(NAME).getMethod("block" + block));
            }
        }
    }

    private static void run(java.lang.reflect.Method block) throws ReflectiveOperationException {
        try {
            block.invoke(null);
        } catch (InvocationTargetException e) {
            need(false, "README.md, " + block.getName() + ": " + e.getCause());
        }
    }

    // ---- what the README must not leave out

    private static void everyCallIsThere(String readme) {
        List<String> shown = new ArrayList<>();
        for (Matcher call = CALL.matcher(readme); call.find();) {
            shown.add(call.group(1));
        }
        for (java.lang.reflect.Method method : FrameClay.class.getDeclaredMethods()) {
            boolean isPublic = java.lang.reflect.Modifier.isPublic(method.getModifiers());
            need(!isPublic || shown.contains(method.getName()), "README.md never shows " + method.getName());
        }
    }

    private static void namesEveryTest(String readme) throws IOException {
        try (var tests = Files.list(Path.of("src/test/java"))) {
            for (Path test : tests.toList()) {
                String name = test.getFileName().toString().replace(".java", "");
                need(readme.contains("`" + name + "`"), "README.md does not name " + name);
            }
        }
    }
}
