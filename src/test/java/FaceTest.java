import java.io.IOException;
import java.lang.reflect.Constructor;
import java.lang.reflect.Field;
import java.lang.reflect.Method;
import java.lang.reflect.Modifier;
import java.nio.file.Files;
import java.nio.file.Path;
import java.util.ArrayList;
import java.util.List;
import java.util.TreeSet;

/** The public face of the document, and the rules of LANGUAGE.md that can be looked up plainly. */
public final class FaceTest {
    private static int wrong = 0;

    public static void main(String[] args) throws IOException {
        String root = args.length > 0 ? args[0] : ".";
        face(root);
        hiddenMembers();
        words(root);
        System.out.println(wrong == 0 ? "the face is as due" : wrong + " things are not as due");
        System.exit(wrong == 0 ? 0 : 1);
    }

    private static void due(String what, Object got, Object want) {
        if (!got.equals(want)) {
            wrong++;
            System.out.println(what + ": " + got + ", due is " + want);
        }
    }

    /** The public members as Java tells them are the lines of the document's face. */
    private static void face(String root) throws IOException {
        List<String> lines = Files.readAllLines(Path.of(root, "..", "shared", "DOC.md"));
        int start = lines.indexOf("public final class JoinRuntime {");
        TreeSet<String> want = new TreeSet<>();
        for (int i = start + 1; start >= 0 && !lines.get(i).equals("}"); i++) {
            String line = lines.get(i).trim().replaceAll("(int|double|float|long|boolean) [a-z]+([,)])", "$1$2");
            want.add(line.replace(";", "").replace(" = -1", "").replace(", ", ","));
        }
        TreeSet<String> got = new TreeSet<>();
        for (Method method : JoinRuntime.class.getDeclaredMethods()) {
            if (Modifier.isPublic(method.getModifiers())) {
                got.add(plain(method.toString()));
            }
        }
        for (Constructor<?> constructor : JoinRuntime.class.getDeclaredConstructors()) {
            got.add(plain(constructor.toString()));
        }
        for (Field field : JoinRuntime.class.getFields()) {
            got.add(plain(field.toString()));
        }
        due("the face", got, want);
        due("the class is public and final", JoinRuntime.class.getModifiers(), Modifier.PUBLIC | Modifier.FINAL);
    }

    private static String plain(String member) {
        return member.replace("JoinRuntime.", "").replace("java.lang.", "").replace(", ", ",");
    }

    private static void hiddenMembers() {
        TreeSet<String> open = new TreeSet<>();
        for (Method method : JoinRuntime.class.getDeclaredMethods()) {
            if (Modifier.isPublic(method.getModifiers())) {
                open.add(method.getName());
            }
        }
        for (Method method : JoinRuntime.class.getDeclaredMethods()) {
            int how = method.getModifiers();
            due(method + " is public or private", Modifier.isPublic(how) || Modifier.isPrivate(how), true);
            due(method + " has a name of its own", Modifier.isPrivate(how) && open.contains(method.getName()), false);
        }
        for (Field field : JoinRuntime.class.getDeclaredFields()) {
            due(field + " is private", Modifier.isPrivate(field.getModifiers()) || field.getName().equals("NONE"), true);
            due(field + " is no static variable",
                Modifier.isStatic(field.getModifiers()) && !Modifier.isFinal(field.getModifiers()), false);
        }
        for (Class<?> inside : JoinRuntime.class.getDeclaredClasses()) {
            due(inside + " is static", Modifier.isStatic(inside.getModifiers()), true);
            due(inside + " is not public", Modifier.isPublic(inside.getModifiers()), false);
            for (Method method : inside.getDeclaredMethods()) {
                due(method + " has a name of its own", open.contains(method.getName()), false);
            }
        }
    }

    /** Words that LANGUAGE.md rules out, or that this class has no need of. */
    private static void words(String root) throws IOException {
        List<String> code = new ArrayList<>();
        for (String line : Files.readAllLines(Path.of(root, "src", "main", "java", "JoinRuntime.java"))) {
            String trimmed = line.trim();
            if (!trimmed.startsWith("*") && !trimmed.startsWith("/*") && !trimmed.startsWith("//")) {
                code.add(line.replaceAll("\"[^\"]*\"", "\"\""));
            }
        }
        String[] forbidden = {"try", "catch", "finally", "synchronized", "assert", "native", "volatile", "Exact",
            "->", "::", "equals", "hashCode", "toString", "System.out", "Random", "Thread", "package", "Object"};
        for (String line : code) {
            for (String word : forbidden) {
                boolean found = line.matches(".*(?<![A-Za-z])\\Q" + word + "\\E(?![A-Za-z]).*");
                due("'" + word + "' in: " + line.trim(), found, false);
            }
            if (line.startsWith("import")) {
                due("the import", line, "import java.util.Arrays;");
            }
        }
    }
}
