import java.io.IOException;
import java.lang.reflect.Constructor;
import java.lang.reflect.Field;
import java.lang.reflect.Method;
import java.lang.reflect.Modifier;
import java.nio.file.Files;
import java.nio.file.Path;
import java.util.ArrayList;
import java.util.Arrays;
import java.util.List;
import java.util.Set;
import java.util.TreeSet;

/** The public face of the document, and what can be seen of LANGUAGE.md's rules from outside. */
public final class FaceTest {
    private static final Check CHECK = new Check("FaceTest");
    private static final String[] METHODS = {
        "void clear()", "void entry(int)", "boolean page(int)", "boolean segment(int,int,int)",
        "boolean drop(int)", "boolean put(int,int,long)", "boolean mark(int,boolean)", "int write()",
        "int size()", "int byteAt(int)", "boolean feed(int,long)", "boolean cut(int)", "int spoil(int,int)",
        "int read()", "int place()", "void keep()", "int about(int,int)", "int told(int)", "int byteIn(int)",
        "int wordIn(int)", "int rights(int)", "int marked(int)", "int markBelow(int)"
    };
    private static final String[] WORDS = {
        "->", "::", "catch", "finally", "try ", "synchronized", "assert", "throw", "protected", "volatile",
        "native", "double", "float", "System.out", "Exact(", " % ", "hashCode", "toString", "public static void"
    };

    public static void main(String[] args) throws IOException {
        face();
        nestedClasses();
        source(Files.readAllLines(Path.of(args.length > 0 ? args[0] : "src/main/java/ImageFile.java")));
        CHECK.finish();
    }

    private static void face() {
        int modifiers = ImageFile.class.getModifiers();
        CHECK.yes("the class is public and final", Modifier.isPublic(modifiers) && Modifier.isFinal(modifiers));
        Constructor<?>[] constructors = ImageFile.class.getDeclaredConstructors();
        CHECK.due("constructors", constructors.length, 1);
        CHECK.yes("a public constructor without arguments",
            Modifier.isPublic(constructors[0].getModifiers()) && constructors[0].getParameterCount() == 0);
        Set<String> open = new TreeSet<>();
        for (Method method : ImageFile.class.getDeclaredMethods()) {
            if (!Modifier.isPrivate(method.getModifiers())) {
                CHECK.yes(method + " is public, not static", method.getModifiers() == Modifier.PUBLIC);
                open.add(signature(method));
            }
        }
        CHECK.yes("the methods of the face: " + open, open.equals(new TreeSet<>(Arrays.asList(METHODS))));
        for (Field field : ImageFile.class.getDeclaredFields()) {
            boolean isNone = field.getName().equals("NONE");
            CHECK.due(field + " is public", Modifier.isPublic(field.getModifiers()), isNone);
            CHECK.due(field + " is private", Modifier.isPrivate(field.getModifiers()), !isNone);
        }
    }

    private static String signature(Method method) {
        List<String> types = new ArrayList<>();
        for (Class<?> type : method.getParameterTypes()) {
            types.add(type.getName());
        }
        return method.getReturnType().getName() + " " + method.getName() + "(" + String.join(",", types) + ")";
    }

    private static void nestedClasses() {
        Set<String> names = new TreeSet<>();
        for (String method : METHODS) {
            names.add(method.substring(method.indexOf(' ') + 1, method.indexOf('(')));
        }
        Class<?>[] nested = ImageFile.class.getDeclaredClasses();
        CHECK.yes("at most twelve classes", nested.length < 12);
        List<Class<?>> all = new ArrayList<>(Arrays.asList(nested));
        for (Class<?> inside : nested) {
            CHECK.yes(inside + " is private and static",
                Modifier.isPrivate(inside.getModifiers()) && Modifier.isStatic(inside.getModifiers()));
            for (Method method : inside.getDeclaredMethods()) {
                CHECK.due(method + " bears a name of the face", names.contains(method.getName()), false);
                CHECK.yes(method + " has at most seven parameters", method.getParameterCount() <= 7);
            }
        }
        all.add(ImageFile.class);
        for (Class<?> one : all) {
            int fields = 0;
            for (Field field : one.getDeclaredFields()) {
                boolean isStatic = Modifier.isStatic(field.getModifiers());
                CHECK.yes(field + " is final if static", !isStatic || Modifier.isFinal(field.getModifiers()));
                fields += isStatic ? 0 : 1;
            }
            CHECK.yes(one + " has at most twenty fields", fields <= 20);
        }
    }

    private static void source(List<String> lines) {
        CHECK.yes("the source has lines", lines.size() > 100);
        for (int i = 0; i < lines.size(); i++) {
            String line = lines.get(i);
            boolean comment = line.trim().startsWith("/*") || line.trim().startsWith("//");
            for (String word : WORDS) {
                CHECK.due("line " + (i + 1) + " has " + word, !comment && line.contains(word), false);
            }
            CHECK.yes("line " + (i + 1) + " imports what is allowed",
                !line.startsWith("import") || line.equals("import java.util.Arrays;"));
            CHECK.due("line " + (i + 1) + " has a package", line.startsWith("package"), false);
            CHECK.yes("line " + (i + 1) + " has characters 0 to 127", line.chars().allMatch(c -> c < 128));
        }
        methodLengths(lines);
    }

    private static void methodLengths(List<String> lines) {
        for (int i = 0; i < lines.size(); i++) {
            String line = lines.get(i);
            String indent = line.substring(0, line.length() - line.stripLeading().length());
            boolean opens = line.endsWith(") {") && (indent.length() == 4 || indent.length() == 8);
            for (int k = i + 1; opens && k < lines.size(); k++) {
                if (lines.get(k).equals(indent + "}")) {
                    CHECK.yes("the method at line " + (i + 1) + " has at most sixty lines", k - i < 60);
                    break;
                }
            }
        }
    }
}
