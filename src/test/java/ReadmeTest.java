import java.io.IOException;
import java.net.URL;
import java.net.URLClassLoader;
import java.nio.charset.StandardCharsets;
import java.nio.file.Files;
import java.nio.file.Path;
import java.util.ArrayList;
import java.util.List;
import java.util.regex.Matcher;
import java.util.regex.Pattern;
import javax.tools.JavaCompiler;
import javax.tools.ToolProvider;

/** The example of README.md: each call that is told with an answer has to give that one. */
public final class ReadmeTest {
    private static final Path README = Path.of("README.md");
    private static final Pattern BLOCK = Pattern.compile("(?s)```java\n(.*?)```");
    private static final Pattern ANSWERED =
        Pattern.compile("(int (\\w+) = )?(.*); +// (-?\\d+(?:\\.\\d+)?)\\b.*");

    public static void main(String[] args) throws Exception {
        List<String> calls = new ArrayList<>();
        List<Double> due = new ArrayList<>();
        String source = sourceOfExample(calls, due);
        double[] got = answers(source, calls.size());
        int wrong = 0;
        for (int i = 0; i < calls.size(); i++) {
            if (got[i] != due.get(i)) {
                wrong++;
                System.out.println(calls.get(i) + " answered " + got[i] + ", README.md tells " + due.get(i));
            }
        }
        System.out.println(calls.size() + " answers of README.md, " + wrong + " wrong");
        if (wrong != 0 || calls.isEmpty()) {
            System.exit(1);
        }
    }

    private static String sourceOfExample(List<String> calls, List<Double> due) throws IOException {
        Matcher block = BLOCK.matcher(Files.readString(README, StandardCharsets.UTF_8));
        StringBuilder source = new StringBuilder(
            "public final class Example {\n  public static void run(double[] told) {\n    int n = 0;\n");
        while (block.find()) {
            for (String line : block.group(1).split("\n")) {
                source.append("    ").append(tellingLine(line, calls, due)).append('\n');
            }
        }
        return source.append("  }\n}\n").toString();
    }

    private static String tellingLine(String line, List<String> calls, List<Double> due) {
        Matcher answered = ANSWERED.matcher(line);
        if (!answered.matches()) {
            return line;
        }
        String call = answered.group(3);
        calls.add(call);
        due.add(Double.valueOf(answered.group(4)));
        String name = answered.group(2);
        return name == null ? "told[n++] = " + call + ";"
            : "int " + name + " = " + call + "; told[n++] = " + name + ";";
    }

    private static double[] answers(String source, int many) throws Exception {
        Path folder = Files.createTempDirectory("readme");
        Path file = folder.resolve("Example.java");
        Path compiled = folder.resolve("Example.class");
        double[] told = new double[many];
        try {
            Files.writeString(file, source, StandardCharsets.UTF_8);
            JavaCompiler compiler = ToolProvider.getSystemJavaCompiler();
            String classPath = System.getProperty("java.class.path");
            if (compiler.run(null, null, null, "-cp", classPath, file.toString()) != 0) {
                throw new IllegalStateException("the example of README.md does not compile");
            }
            try (URLClassLoader loader = new URLClassLoader(new URL[] {folder.toUri().toURL()})) {
                loader.loadClass("Example").getMethod("run", double[].class).invoke(null, (Object) told);
            }
        } finally {
            Files.deleteIfExists(file);
            Files.deleteIfExists(compiled);
            Files.deleteIfExists(folder);
        }
        return told;
    }
}
