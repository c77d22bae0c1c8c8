import java.io.ByteArrayOutputStream;
import java.io.File;
import java.io.IOException;
import java.io.PrintStream;
import java.lang.reflect.Method;
import java.lang.reflect.Modifier;
import java.net.URL;
import java.net.URLClassLoader;
import java.nio.charset.StandardCharsets;
import java.nio.file.Files;
import java.nio.file.Path;
import java.util.List;
import java.util.Objects;
import javax.tools.ToolProvider;

/**
 * Whether README.md holds: its example compiles and prints what the page says, and every call and every test is
 * named there. Runs in the folder of the project.
 */
final class Readme {
    private Readme() {
    }

    public static void main(String[] args) throws Exception {
        Kit kit = new Kit();
        String page = Files.readString(Path.of("README.md"));
        String said = blockOf(page, "text");
        String printed = printedBy(blockOf(page, "java"));
        if (!said.equals(printed)) {
            System.out.println("the example printed\n" + printed + "README.md says\n" + said);
        }
        kit.due("the example prints what README.md says", said.equals(printed) && !said.isEmpty(), true);
        for (Method method : PassScreener.class.getDeclaredMethods()) {
            if (Modifier.isPublic(method.getModifiers())) {
                String name = method.getName();
                kit.due("README.md's table names " + name, tableNames(page, name), true);
            }
        }
        for (File file : Objects.requireNonNull(new File("src/test/java").listFiles())) {
            if (Files.readString(file.toPath()).contains("public static void main(")) {
                String name = file.getName().replace(".java", "");
                boolean isEdges = name.startsWith("EdgesOf") && tableNames(page, "EdgesOf..");
                kit.due("README.md's table names " + name, isEdges || tableNames(page, name), true);
            }
        }
        kit.close();
    }

    /** What stands in the first block of a language. */
    private static String blockOf(String page, String language) {
        String opening = "\n```" + language + "\n";
        int from = page.indexOf(opening) + opening.length();
        int to = page.indexOf("```\n", from);
        return from < opening.length() || to < 0 ? "" : page.substring(from, to);
    }

    private static boolean tableNames(String page, String name) {
        for (String line : page.split("\n")) {
            if (line.startsWith("| ") && line.substring(0, line.indexOf(" |", 2) + 1).contains("`" + name + "`")) {
                return true;
            }
        }
        return false;
    }

    private static String printedBy(String example) throws Exception {
        Path folder = Files.createTempDirectory("readme");
        Path source = folder.resolve("Example.java");
        try {
            Files.writeString(source, example);
            String classPath = System.getProperty("java.class.path");
            List<String> words = List.of("-Xlint:all", "-Werror", "-d", folder.toString(), "-cp", classPath,
                    source.toString());
            int code = ToolProvider.getSystemJavaCompiler().run(null, null, null, words.toArray(new String[0]));
            return code == 0 ? printedIn(folder) : "it does not compile\n";
        } finally {
            for (File file : Objects.requireNonNull(folder.toFile().listFiles())) {
                Files.delete(file.toPath());
            }
            Files.delete(folder);
        }
    }

    private static String printedIn(Path folder) throws ReflectiveOperationException, IOException {
        PrintStream console = System.out;
        ByteArrayOutputStream printed = new ByteArrayOutputStream();
        try (URLClassLoader loader = new URLClassLoader(new URL[] {folder.toUri().toURL()})) {
            System.setOut(new PrintStream(printed, true, StandardCharsets.UTF_8));
            Method main = loader.loadClass("Example").getMethod("main", String[].class);
            main.invoke(null, (Object) new String[0]);
        } finally {
            System.setOut(console);
        }
        return printed.toString(StandardCharsets.UTF_8).replace(System.lineSeparator(), "\n");
    }
}
