import java.io.StringWriter;
import java.lang.reflect.Method;
import java.lang.reflect.Modifier;
import java.net.URI;
import java.net.URL;
import java.net.URLClassLoader;
import java.nio.file.Files;
import java.nio.file.Path;
import java.util.ArrayList;
import java.util.List;
import java.util.function.Supplier;
import java.util.regex.Matcher;
import java.util.regex.Pattern;
import javax.tools.JavaFileObject;
import javax.tools.SimpleJavaFileObject;
import javax.tools.ToolProvider;

/** README.md is there: its example gives the answers that stand behind its calls, and it names every call and the tests. */
public final class ReadmeTest {
    private static final Pattern JAVA = Pattern.compile("```java\n(.*?)```", Pattern.DOTALL);
    private static final Pattern XML = Pattern.compile("```xml\n(.*?)\n```", Pattern.DOTALL);
    /** A call, or a variable that is given its answer, with the answer that is due as the first word of a comment. */
    private static final Pattern CALL = Pattern.compile("(?:int (\\w+) = )?(scribe\\..*?);\\s*// (-?\\d+|true|false)\\b.*");

    private final List<String> calls = new ArrayList<>();
    private final List<String> wanted = new ArrayList<>();

    private ReadmeTest() {
    }

    public static void main(String[] args) throws Exception {
        String readme = Files.readString(Path.of("README.md"));
        Matcher example = JAVA.matcher(readme);
        Matcher text = XML.matcher(readme);
        Check.due("an example in README.md", example.find() && text.find(), true);
        new ReadmeTest().compare(example.group(1), text.group(1));
        for (Method call : GraphScribe.class.getDeclaredMethods()) {
            boolean told = readme.contains("| `" + call.getName() + "(");
            Check.due("README.md tells of " + call.getName(), told || !Modifier.isPublic(call.getModifiers()), true);
        }
        Check.due("README.md tells how to run the tests", readme.contains("\n    .ci/run\n"), true);
        Check.end();
    }

    private void compare(String example, String text) throws Exception {
        List<?> answers = answersOf(source(example));
        Check.due("calls with answers in README.md", calls.size() >= 10, true);
        calls.add("what was written");
        wanted.add(text);
        Check.due("answers to README.md's calls", answers.size(), calls.size());
        for (int i = 0; i < calls.size() && i < answers.size(); i++) {
            Check.due("README.md: " + calls.get(i), String.valueOf(answers.get(i)), wanted.get(i));
        }
    }

    /** A class that makes the example's calls, and supplies their answers and what was written. */
    private String source(String example) {
        StringBuilder body = new StringBuilder();
        for (String line : example.split("\n")) {
            Matcher call = CALL.matcher(line);
            if (!call.matches()) {
                body.append(line).append("\n");
                continue;
            }
            calls.add(call.group(2));
            wanted.add(call.group(3));
            String name = call.group(1) == null ? "answer" + calls.size() : call.group(1);
            body.append("var ").append(name).append(" = ").append(call.group(2)).append(";\n");
            body.append("answers.add(").append(name).append(");\n");
        }
        return "public final class Example implements java.util.function.Supplier<java.util.List<Object>> {\n"
                + "public java.util.List<Object> get() {\n"
                + "java.util.List<Object> answers = new java.util.ArrayList<>();\n" + body
                + "String written = \"\"; for (int i = 0; i < length; i++) written += (char) scribe.sign(i);\n"
                + "answers.add(written);\nreturn answers; } }";
    }

    private static List<?> answersOf(String source) throws Exception {
        Path out = Files.createTempDirectory("readme");
        StringWriter said = new StringWriter();
        List<String> options = List.of("-d", out.toString(), "-cp", System.getProperty("java.class.path"));
        Iterable<JavaFileObject> files = List.of(new SimpleJavaFileObject(URI.create("string:///Example.java"),
                JavaFileObject.Kind.SOURCE) {
            @Override
            public CharSequence getCharContent(boolean ignoreErrors) {
                return source;
            }
        });
        boolean compiled = ToolProvider.getSystemJavaCompiler().getTask(said, null, null, options, null, files).call();
        Check.due("compiling the example of README.md " + said, compiled, true);
        List<?> answers = compiled ? supplied(out) : List.of();
        Files.deleteIfExists(out.resolve("Example.class"));
        Files.delete(out);
        return answers;
    }

    private static List<?> supplied(Path out) throws Exception {
        try (URLClassLoader loader = new URLClassLoader(new URL[] {out.toUri().toURL()})) {
            Object example = loader.loadClass("Example").getConstructor().newInstance();
            return example instanceof Supplier<?> supplier && supplier.get() instanceof List<?> list ? list : List.of();
        }
    }
}
