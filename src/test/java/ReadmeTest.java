import java.io.IOException;
import java.net.URL;
import java.net.URLClassLoader;
import java.nio.file.Files;
import java.nio.file.Path;
import java.util.ArrayList;
import java.util.Comparator;
import java.util.List;
import java.util.regex.Matcher;
import java.util.regex.Pattern;
import java.util.stream.Stream;
import javax.tools.ToolProvider;

/** README.md: its examples compile, and every call in them answers what stands behind it. */
public final class ReadmeTest {
    private static final Due DUE = new Due("ReadmeTest");
    private static final Pattern BLOCK = Pattern.compile("(?s)```java\n(.*?)```");
    private static final Pattern CALL = Pattern.compile("((?:int \\w+ = )?)(x\\.\\w+\\(.*?\\)); +// (-?\\d+|true|false)(:.*)?");

    private final List<String> calls = new ArrayList<>();
    private final List<String> answers = new ArrayList<>();

    public static void main(String[] args) throws Exception {
        Path folder = Files.createTempDirectory("readme");
        try {
            new ReadmeTest().run(folder);
        } finally {
            remove(folder);
        }
        DUE.end();
    }

    private void run(Path folder) throws Exception {
        Matcher block = BLOCK.matcher(Files.readString(Path.of("README.md")));
        DUE.yes("an example", block.find());
        StringBuilder source = new StringBuilder("public final class Readme {\n");
        source.append("public static void run(java.util.List<Object> got) {\n");
        block.group(1).lines().forEach(line -> source.append(watched(line)).append('\n'));
        source.append("}\n");
        DUE.yes("how to bring in a text", block.find());
        source.append(block.group(1).replace("static boolean draft", "public static boolean draft")).append("}\n");
        Class<?> readme = compiled(folder, source.toString());
        answers(readme);
        drafts(readme);
    }

    /** A line with an answer behind its call hands over what the call answers. */
    private String watched(String line) {
        Matcher call = CALL.matcher(line);
        if (!call.matches()) {
            DUE.no("a call without its answer: " + line, line.startsWith("x.") || line.startsWith("int "));
            return line;
        }
        calls.add(call.group(2));
        answers.add(call.group(3));
        String name = call.group(1).isEmpty() ? "" : call.group(1).split(" ")[1];
        return name.isEmpty() ? "got.add(" + call.group(2) + ");" : line.split("//")[0] + "got.add(" + name + ");";
    }

    private static Class<?> compiled(Path folder, String source) throws Exception {
        Path file = folder.resolve("Readme.java");
        Files.writeString(file, source);
        String classPath = System.getProperty("java.class.path");
        int code = ToolProvider.getSystemJavaCompiler()
            .run(null, null, null, "-cp", classPath, "-d", folder.toString(), file.toString());
        DUE.is("javac of the examples", code, 0);
        try (URLClassLoader loader = new URLClassLoader(new URL[] {folder.toUri().toURL()})) {
            return loader.loadClass("Readme");
        }
    }

    private void answers(Class<?> readme) throws Exception {
        List<Object> got = new ArrayList<>();
        readme.getMethod("run", List.class).invoke(null, got);
        DUE.is("so many answers", got.size(), answers.size());
        for (int i = 0; i < answers.size(); i++) {
            DUE.yes(calls.get(i) + " answered " + got.get(i) + ", " + answers.get(i), got.get(i).toString().equals(answers.get(i)));
        }
    }

    private static void drafts(Class<?> readme) throws Exception {
        String[] texts = {"*A", "#A?x.a>3|x.b=n", "+x.b.aA?!x.b=n", "*B?Eyx.c:(y.a=5&!y=x)", "#A?" + "0=0&".repeat(13) + "x.b=n"};
        for (String text : texts) {
            ObjectBase x = new ObjectBase();
            x.type(0);
            x.type(1);
            x.field(1, 0, 0);
            x.field(1, 1, 1);
            x.field(2, 2, 1);
            DUE.yes(text, (Boolean) readme.getMethod("draft", ObjectBase.class, String.class).invoke(null, x, text));
            DUE.is(text, x.prepare(), 0);
        }
    }

    private static void remove(Path folder) throws IOException {
        try (Stream<Path> paths = Files.walk(folder)) {
            for (Path path : paths.sorted(Comparator.reverseOrder()).toList()) {
                Files.delete(path);
            }
        }
    }
}
