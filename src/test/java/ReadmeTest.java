import java.net.URL;
import java.net.URLClassLoader;
import java.nio.file.Files;
import java.nio.file.Path;
import java.util.regex.Matcher;
import java.util.regex.Pattern;
import javax.tools.ToolProvider;

/** The example of README.md is compiled and run: each call answers the number that stands beside it. */
public final class ReadmeTest {
    private static final Pattern CALL = Pattern.compile("(x\\.\\w+\\(.*\\));\\s+// (-?\\d+)(:.*)?");
    private static final int FEWEST_CALLS = 20;
    private static int calls;

    private static String example(String readme) {
        String open = "```java\n";
        int start = readme.indexOf(open);
        int end = readme.indexOf("```", start + open.length());
        return start < 0 || end < 0 ? "" : readme.substring(start + open.length(), end);
    }

    /** Lines that make no promise stay as they are. */
    private static String held(String line) {
        Matcher call = CALL.matcher(line);
        if (!call.matches()) {
            return line;
        }
        calls++;
        String text = call.group(1).replace("\"", "\\\"");
        return "Example.hold(\"" + text + "\", " + call.group(1) + ", " + call.group(2) + ");";
    }

    private static String program(String example) {
        StringBuilder text = new StringBuilder("public final class Example implements Runnable {\n"
            + "static int wrong;\n"
            + "static void hold(String call, long got, long due) { if (got != due) { wrong++;"
            + " System.out.println(\"README.md: \" + call + \" answered \" + got + \", said is \" + due); } }\n"
            + "public void run() {\n");
        for (String line : example.split("\n")) {
            text.append(held(line)).append('\n');
        }
        return text.append("if (wrong > 0) { throw new IllegalStateException(); }\n}\n}\n").toString();
    }

    private static boolean runs(String program) throws Exception {
        Path folder = Files.createTempDirectory("readme");
        Path file = Files.writeString(folder.resolve("Example.java"), program);
        int failed = ToolProvider.getSystemJavaCompiler().run(null, null, null, "-proc:none", "-cp",
            System.getProperty("java.class.path"), "-d", folder.toString(), file.toString());
        boolean isRight = failed == 0;
        try (URLClassLoader loader = new URLClassLoader(new URL[] {folder.toUri().toURL()})) {
            if (isRight) {
                ((Runnable) loader.loadClass("Example").getDeclaredConstructor().newInstance()).run();
            }
        } catch (IllegalStateException wrongAnswers) {
            isRight = false;
        }
        Files.deleteIfExists(folder.resolve("Example.class"));
        Files.delete(file);
        Files.delete(folder);
        return isRight;
    }

    public static void main(String[] args) throws Exception {
        boolean isRight = runs(program(example(Files.readString(Path.of("README.md")))));
        boolean isWhole = calls >= FEWEST_CALLS;
        System.out.println("ReadmeTest: " + calls + " calls of the example were held against its answers, "
            + (isRight && isWhole ? "all are right" : isWhole ? "some are wrong" : "too few"));
        if (!isRight || !isWhole) {
            System.exit(1);
        }
    }
}
