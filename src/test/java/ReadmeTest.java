import java.io.IOException;
import java.lang.reflect.Method;
import java.net.URL;
import java.net.URLClassLoader;
import java.nio.file.Files;
import java.nio.file.Path;
import java.util.ArrayList;
import java.util.List;
import java.util.regex.Matcher;
import java.util.regex.Pattern;
import javax.tools.ToolProvider;

/** Runs the examples of README.md: each call answers what its comment says, and each call of the face is named. */
public final class ReadmeTest {
    private static final Pattern BLOCK = Pattern.compile("(?s)```java\n(.*?)```");
    private static final Pattern ANSWERED = Pattern.compile("((?:int|boolean) (\\w+) = )?(.*); +// (-?\\d+|true|false)\\b.*");

    public static void main(String[] args) throws Exception {
        String page = Files.readString(Path.of("README.md"));
        List<String> blocks = new ArrayList<>();
        Matcher block = BLOCK.matcher(page);
        while (block.find()) {
            blocks.add(block.group(1));
        }
        Check.due("examples", blocks.size(), 2);
        for (Method method : LookTimes.class.getMethods()) {
            boolean own = method.getDeclaringClass() == LookTimes.class;
            Check.yes("the page names " + method, !own || page.contains("`" + method.getName() + "`"));
        }
        for (int i = 0; i < blocks.size(); i++) {
            run("Example" + i, blocks.get(i));
        }
        Check.close("ReadmeTest");
    }

    /** The example as a class whose answers are asked for; what it found wrong comes back as texts. */
    private static String written(String name, String example) {
        StringBuilder java = new StringBuilder("public class " + name + " {\n");
        java.append("public static void main(java.util.List<String> wrong) {\n");
        for (String line : example.split("\n")) {
            Matcher answered = ANSWERED.matcher(line);
            if (answered.matches()) {
                String kept = answered.group(1) == null ? "var got" + java.length() + " = " : answered.group(1);
                String named = kept.replaceAll("^\\w+ | = $", "");
                java.append(kept).append(answered.group(3)).append(";\n");
                java.append("wrong.add(").append(named).append(" == ").append(answered.group(4)).append(" ? null : \"")
                    .append(line.trim().replace("\"", "'")).append(" but \" + ").append(named).append(");\n");
            } else {
                java.append(line).append("\n");
            }
        }
        return java.append("}\n}\n").toString();
    }

    private static void run(String name, String example) throws Exception {
        Path folder = Files.createTempDirectory("readme");
        try {
            Path file = folder.resolve(name + ".java");
            Files.writeString(file, written(name, example));
            int code = ToolProvider.getSystemJavaCompiler().run(null, null, null, "-proc:none", "-cp",
                System.getProperty("java.class.path"), "-d", folder.toString(), file.toString());
            Check.due(name + " compiles", code, 0);
            if (code != 0) {
                return;
            }
            List<String> wrong = new ArrayList<>();
            try (URLClassLoader loader = new URLClassLoader(new URL[] {folder.toUri().toURL()})) {
                loader.loadClass(name).getMethod("main", List.class).invoke(null, wrong);
            }
            Check.yes(name + " has answers", wrong.size() > 10);
            for (String one : wrong) {
                Check.yes(String.valueOf(one), one == null);
            }
        } finally {
            clear(folder);
        }
    }

    private static void clear(Path folder) throws IOException {
        try (var files = Files.list(folder)) {
            for (Path file : files.toList()) {
                Files.delete(file);
            }
        }
        Files.delete(folder);
    }
}
