import java.io.IOException;
import java.lang.reflect.Constructor;
import java.lang.reflect.Field;
import java.lang.reflect.Method;
import java.lang.reflect.Modifier;
import java.nio.file.Files;
import java.nio.file.Path;
import java.util.ArrayList;
import java.util.List;
import java.util.Set;
import java.util.TreeSet;
import java.util.regex.Matcher;
import java.util.regex.Pattern;

/** The face of the class is that of the document, and its source keeps to what a text search can see of LANGUAGE.md. */
public final class FaceTest {
    private static final Pattern METHOD = Pattern.compile("    public (\\w+) (\\w+)\\((.*?)\\)(?: throws (.*))?;");
    private static final String[] RULED_OUT = {
        "\\bfinally\\b", "\\bsynchronized\\b", "\\bassert\\b", "->", "::", "\\bcatch\\b", "\\btry\\b", "static \\{",
        "\\bequals\\(", "\\bhashCode\\b", "\\btoString\\b", "Exact\\(", "\\bvar\\b", "\\bprotected\\b", "package ",
        "System\\.(?!arraycopy)", "Math\\.(?!max\\(|min\\(|abs\\(|floorDiv\\(|floorMod\\()", "\\bThread\\b", "\\bString\\b",
    };

    private final Checks checks = new Checks();

    private FaceTest() {
    }

    public static void main(String[] args) throws IOException {
        FaceTest test = new FaceTest();
        test.face(Files.readString(Path.of("../shared/DOC.md")));
        test.members(Patiencearchive.class);
        test.source(Files.readAllLines(Path.of("src/main/java/Patiencearchive.java")));
        test.checks.end("FaceTest");
    }

    private void face(String document) {
        Set<String> due = new TreeSet<>();
        Matcher matcher = METHOD.matcher(document);
        while (matcher.find()) {
            due.add(matcher.group(1) + " " + matcher.group(2) + "(" + types(matcher.group(3)) + ") "
                    + (matcher.group(4) == null ? "" : matcher.group(4)));
        }
        Set<String> got = new TreeSet<>();
        for (Method method : Patiencearchive.class.getDeclaredMethods()) {
            if (Modifier.isPublic(method.getModifiers())) {
                got.add(told(method));
            }
        }
        checks.is("the methods told by the document", 37, due::size);
        checks.is("the public methods", due, () -> got);
    }

    private static String types(String parameters) {
        List<String> types = new ArrayList<>();
        for (String parameter : parameters.split(", ")) {
            types.add(parameter.split(" ")[0]);
        }
        return String.join(", ", types);
    }

    private static String told(Method method) {
        List<String> types = new ArrayList<>();
        for (Class<?> type : method.getParameterTypes()) {
            types.add(type.getSimpleName());
        }
        List<String> thrown = new ArrayList<>();
        for (Class<?> type : method.getExceptionTypes()) {
            thrown.add(type.getSimpleName());
        }
        return method.getReturnType().getSimpleName() + " " + method.getName() + "(" + String.join(", ", types) + ") "
                + String.join(", ", thrown);
    }

    private void members(Class<?> face) {
        checks.is("final", true, () -> Modifier.isFinal(face.getModifiers()));
        checks.is("constructors", 1, () -> face.getDeclaredConstructors().length);
        for (Constructor<?> constructor : face.getDeclaredConstructors()) {
            checks.is("the constructor is public", true, () -> Modifier.isPublic(constructor.getModifiers()));
        }
        Set<String> publicNames = new TreeSet<>();
        for (Method method : face.getMethods()) {
            publicNames.add(method.getName());
        }
        for (Method method : face.getDeclaredMethods()) {
            if (!Modifier.isPublic(method.getModifiers())) {
                checks.is(method + " is private", true, () -> Modifier.isPrivate(method.getModifiers()));
                checks.is(method + " has a name of its own", false, () -> publicNames.contains(method.getName()));
            }
        }
        fields(face);
        checks.is("classes", true, () -> face.getDeclaredClasses().length < 12);
        for (Class<?> inside : face.getDeclaredClasses()) {
            checks.is(inside + " is static", true, () -> Modifier.isStatic(inside.getModifiers()));
            checks.is(inside + " is not public", false, () -> Modifier.isPublic(inside.getModifiers()));
            fields(inside);
        }
    }

    private void fields(Class<?> type) {
        int own = 0;
        for (Field field : type.getDeclaredFields()) {
            checks.is(field + " is private", true, () -> Modifier.isPrivate(field.getModifiers()));
            if (Modifier.isStatic(field.getModifiers())) {
                checks.is(field + " is final", true, () -> Modifier.isFinal(field.getModifiers()));
            } else {
                own++;
            }
        }
        int fields = own;
        checks.is(type + " has at most 20 fields", true, () -> fields <= 20);
    }

    private void source(List<String> lines) {
        int methodStart = 0;
        for (int i = 0; i < lines.size(); i++) {
            String line = lines.get(i);
            int number = i + 1;
            String code = line.replaceAll("//.*|/\\*\\*.*", "").replaceAll("\"[^\"]*\"", "\"\"");
            for (String ruledOut : RULED_OUT) {
                checks.is("line " + number + " has " + ruledOut, false, () -> Pattern.compile(ruledOut).matcher(code).find());
            }
            checks.is("line " + number + " is of ASCII", true, () -> line.chars().allMatch(c -> c >= 32 && c < 127));
            checks.is("line " + number + " throws a written text", true,
                    () -> !code.contains("throw ") || code.matches(" *throw new \\w+\\(\"\"\\);"));
            if (line.matches("( {4}| {8})[\\w<].*\\{")) {
                methodStart = i;
            }
            if (line.matches("( {4}| {8})\\}")) {
                int length = i - methodStart;
                checks.is("the method that ends at line " + number + " has at most 60 lines", true, () -> length <= 60);
            }
        }
    }
}
