import java.io.IOException;
import java.lang.reflect.InvocationTargetException;
import java.net.URI;
import java.net.URL;
import java.net.URLClassLoader;
import java.nio.file.Files;
import java.nio.file.Path;
import java.util.List;
import java.util.regex.Matcher;
import java.util.regex.Pattern;
import javax.tools.JavaCompiler;
import javax.tools.JavaFileObject;
import javax.tools.SimpleJavaFileObject;
import javax.tools.ToolProvider;

/** README.md: the example of use compiles, runs to its end and gives the answers that it tells. */
public final class ReadmeTest {
    private static final Pattern EXAMPLE = Pattern.compile("```java\n(.*?)```", Pattern.DOTALL);
    /** A line of the example: a call, with or without a name for its answer, and the answer it tells. */
    private static final Pattern TOLD = Pattern.compile("(int (\\w+) = )?(.*?);\\s*// (-?\\d+):? .*");

    public static void main(String[] args) throws IOException {
        Matcher found = EXAMPLE.matcher(Files.readString(Path.of("README.md")));
        if (found.find()) {
            run(programOf(found.group(1)));
        } else {
            Check.fail("README.md has no example");
        }
        Check.end();
    }

    private static String programOf(String example) {
        StringBuilder program = new StringBuilder("public final class ReadmeExample {\n");
        program.append("public static void main(String[] args) {\n");
        int told = 0;
        for (String line : example.split("\n")) {
            Matcher answer = TOLD.matcher(line);
            if (answer.matches()) {
                told++;
                String name = answer.group(2) == null ? "told" + told : answer.group(2);
                program.append("int ").append(name).append(" = ").append(answer.group(3)).append(";\n");
                program.append("if (").append(name).append(" != ").append(answer.group(4)).append(") {\n");
                program.append("throw new IllegalStateException(\"line ").append(told).append(" told: \" + ");
                program.append(name).append(");\n}\n");
            } else {
                program.append(line).append('\n');
            }
        }
        if (told == 0) {
            Check.fail("the example tells no answers");
        }
        return program.append("}\n}\n").toString();
    }

    private static void run(String program) throws IOException {
        Path folder = Files.createTempDirectory("readme");
        JavaCompiler compiler = ToolProvider.getSystemJavaCompiler();
        List<String> options = List.of("-proc:none", "-d", folder.toString(),
                "-cp", System.getProperty("java.class.path"));
        boolean compiled = compiler.getTask(null, null, null, options, null, List.of(new Text(program))).call();
        if (compiled) {
            callMain(folder);
        } else {
            Check.fail("the example does not compile:\n" + program);
        }
        Files.deleteIfExists(folder.resolve("ReadmeExample.class"));
        Files.deleteIfExists(folder);
    }

    private static void callMain(Path folder) throws IOException {
        try (URLClassLoader loader = new URLClassLoader(new URL[] {folder.toUri().toURL()})) {
            loader.loadClass("ReadmeExample").getMethod("main", String[].class).invoke(null, (Object) new String[0]);
        } catch (InvocationTargetException e) {
            Check.fail("the example ended by " + e.getCause());
        } catch (ReflectiveOperationException e) {
            Check.fail("the example can't be called: " + e);
        }
    }

    private static final class Text extends SimpleJavaFileObject {
        private final String text;

        Text(String text) {
            super(URI.create("string:///ReadmeExample.java"), JavaFileObject.Kind.SOURCE);
            this.text = text;
        }

        @Override
        public CharSequence getCharContent(boolean ignoreEncodingErrors) {
            return text;
        }
    }
}
