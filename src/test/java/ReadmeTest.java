import java.io.IOException;
import java.lang.reflect.Method;
import java.lang.reflect.Modifier;
import java.net.URL;
import java.net.URLClassLoader;
import java.nio.file.Files;
import java.nio.file.Path;
import java.util.ArrayList;
import java.util.List;
import java.util.regex.Matcher;
import java.util.regex.Pattern;
import javax.tools.ToolProvider;

/** README.md: its example answers what it says, and it tells of every call. */
public final class ReadmeTest {
    private static final Check check = new Check();
    private static final Pattern ANSWER = Pattern.compile("(x\\.\\w+\\(.*\\)); *// -> (-?\\d+).*");

    public static void main(String[] args) throws IOException, ReflectiveOperationException {
        String readme = Files.readString(Path.of("README.md"));
        example(readme.substring(readme.indexOf("```java\n") + 8));
        everyCall(readme);
        check.finish();
    }

    private static void example(String fromItsStart) throws IOException, ReflectiveOperationException {
        List<String> calls = new ArrayList<>();
        List<Integer> due = new ArrayList<>();
        StringBuilder body = new StringBuilder();
        for (String line : fromItsStart.substring(0, fromItsStart.indexOf("```")).split("\n")) {
            Matcher answer = ANSWER.matcher(line);
            if (answer.matches()) {
                calls.add(answer.group(1));
                due.add(Integer.valueOf(answer.group(2)));
                body.append("answers.add(").append(answer.group(1)).append(");\n");
            } else {
                body.append(line).append('\n');
            }
        }
        List<?> got = answersOf(body);
        check.same("answers", got.size(), due.size());
        for (int k = 0; k < due.size(); k++) {
            check.same(calls.get(k), (Integer) got.get(k), due.get(k));
        }
    }

    private static List<?> answersOf(CharSequence body) throws IOException, ReflectiveOperationException {
        Path folder = Files.createTempDirectory("readme");
        Path source = folder.resolve("ReadmeExample.java");
        Files.writeString(source, "public final class ReadmeExample {\n"
                + "public static java.util.List<Integer> answers() {\n"
                + "java.util.List<Integer> answers = new java.util.ArrayList<>();\n"
                + body + "return answers;\n}\n}\n");
        int compiled = ToolProvider.getSystemJavaCompiler().run(null, null, null, "-cp",
                System.getProperty("java.class.path"), "-d", folder.toString(), source.toString());
        check.same("the example compiles", compiled, 0);
        try (URLClassLoader loader = new URLClassLoader(new URL[] {folder.toUri().toURL()})) {
            return (List<?>) loader.loadClass("ReadmeExample").getMethod("answers").invoke(null);
        } finally {
            Files.deleteIfExists(folder.resolve("ReadmeExample.class"));
            Files.delete(source);
            Files.delete(folder);
        }
    }

    private static void everyCall(String readme) {
        for (Method method : TransactionCores.class.getDeclaredMethods()) {
            if (Modifier.isPublic(method.getModifiers())) {
                String row = "\n| `" + method.getReturnType() + " " + method.getName() + "(";
                check.same("a row for " + method, readme.contains(row) ? 1 : 0, 1);
                for (Class<?> thrown : method.getExceptionTypes()) {
                    String told = readme.substring(readme.indexOf(row) + 1).split("\n")[0];
                    check.same(method + ": the row tells what it throws",
                            told.contains(thrown.getSimpleName()) ? 1 : 0, 1);
                }
            }
        }
    }
}
