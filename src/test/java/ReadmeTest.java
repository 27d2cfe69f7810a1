import java.io.IOException;
import java.lang.reflect.Method;
import java.lang.reflect.Modifier;
import java.nio.file.Files;
import java.nio.file.Path;
import java.util.regex.Matcher;
import java.util.regex.Pattern;
import javax.tools.JavaCompiler;
import javax.tools.ToolProvider;

/** README.md says how to use the class: its examples answer what their comments say, and it tells every call. */
public final class ReadmeTest {
    private static final Check CHECK = new Check("ReadmeTest");
    private static final Pattern BLOCK = Pattern.compile("```java\n(.*?)```", Pattern.DOTALL);
    private static final Pattern RESULT = Pattern.compile("int (\\w+) = [^\n]*?// (-?\\d+)");

    public static void main(String[] args) throws IOException, ReflectiveOperationException {
        String readme = Files.readString(Path.of("README.md"));
        everyCall(readme);
        examples(readme);
        CHECK.finish();
    }

    private static void everyCall(String readme) {
        for (Method method : ImageFile.class.getDeclaredMethods()) {
            if (Modifier.isPublic(method.getModifiers())) {
                CHECK.yes("a row tells " + method.getName(), readme.contains("\n| `" + method.getName() + "("));
            }
        }
    }

    private static void examples(String readme) throws IOException, ReflectiveOperationException {
        StringBuilder code = new StringBuilder();
        for (Matcher block = BLOCK.matcher(readme); block.find();) {
            code.append(block.group(1));
        }
        StringBuilder dues = new StringBuilder();
        int results = 0;
        for (Matcher result = RESULT.matcher(code); result.find(); results++) {
            dues.append("check.due(\"").append(result.group(1)).append("\", ").append(result.group(1)).append(", ")
                .append(result.group(2)).append(");\n");
        }
        CHECK.yes("the examples tell answers", results > 0);
        run("final class Example {\n static void run(Check check) {\n" + code + dues + "}\n}\n");
    }

    private static void run(String source) throws IOException, ReflectiveOperationException {
        JavaCompiler compiler = ToolProvider.getSystemJavaCompiler();
        if (compiler == null) {
            System.out.println("notice: this java has no compiler, so the examples were not run");
            return;
        }
        String classes = System.getProperty("java.class.path");
        Path folder = Files.createTempDirectory("readme");
        Path file = Files.writeString(folder.resolve("Example.java"), source);
        int refused = compiler.run(null, null, null, "-cp", classes, "-d", classes, file.toString());
        Files.delete(file);
        Files.delete(folder);
        CHECK.due("compiling the examples", refused, 0);
        if (refused == 0) {
            Method example = Class.forName("Example").getDeclaredMethod("run", Check.class);
            example.setAccessible(true);
            example.invoke(null, CHECK);
        }
    }
}
