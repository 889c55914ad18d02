import java.io.IOException;
import java.lang.reflect.Constructor;
import java.lang.reflect.Field;
import java.lang.reflect.Method;
import java.lang.reflect.Modifier;
import java.nio.file.Files;
import java.nio.file.Path;
import java.util.TreeSet;
import java.util.regex.Matcher;
import java.util.regex.Pattern;

/** The class has the document's face and nothing more, and its file none of the words that LANGUAGE.md rules out. */
public final class FaceTest {
    private static final String[] FACE = {
        "write(int)", "wipe()", "fault()", "lay()", "guest(int,int)", "slice(int,int)", "putIn(int,int)", "pass(int)",
        "knob(int)", "take(int,int)", "undo()", "falls(int)", "willBe(int)", "content()", "knobFor(int,int)",
        "often(int,int)", "waits(int,int)", "harm(int)", "share(int)", "round()", "seen(int,int,int,int)", "forget()",
        "hot(int)", "left(int,int,int)", "morning(int,int,int)", "keep()", "back()", "count(int)"};
    private static final String[] CONSTANTS = {"BAD", "NO", "FULL", "NONE"};

    private static int wrong = 0;

    private static void due(String what, boolean holds) {
        if (!holds) {
            wrong++;
            System.out.println("not so: " + what);
        }
    }

    private static String told(Method m) {
        String full = m.toString();
        return m.getName() + full.substring(full.indexOf('('));
    }

    private static void members() {
        TreeSet<String> face = new TreeSet<>();
        TreeSet<String> names = new TreeSet<>();
        for (Method m : ToastBelt.class.getDeclaredMethods()) {
            if (!Modifier.isPrivate(m.getModifiers())) {
                face.add(told(m));
                names.add(m.getName());
                due(m + " is public, of an object, answers an int", Modifier.isPublic(m.getModifiers())
                    && !Modifier.isStatic(m.getModifiers()) && m.getReturnType() == int.class);
            }
        }
        for (Method m : ToastBelt.class.getDeclaredMethods()) {
            due(m + " bears no name of the face", !Modifier.isPrivate(m.getModifiers()) || !names.contains(m.getName()));
        }
        due("the methods are " + face, face.equals(new TreeSet<>(java.util.List.of(FACE))));
        TreeSet<String> constants = new TreeSet<>();
        for (Field f : ToastBelt.class.getDeclaredFields()) {
            if (!Modifier.isPrivate(f.getModifiers())) {
                constants.add(f.getName());
            }
            due(f + " is final if it is static", !Modifier.isStatic(f.getModifiers()) || Modifier.isFinal(f.getModifiers()));
        }
        due("the constants are " + constants, constants.equals(new TreeSet<>(java.util.List.of(CONSTANTS))));
        Constructor<?>[] made = ToastBelt.class.getDeclaredConstructors();
        due("one public constructor", made.length == 1 && Modifier.isPublic(made[0].getModifiers())
            && made[0].getParameterCount() == 0);
        due("public and final", ToastBelt.class.getModifiers() == (Modifier.PUBLIC | Modifier.FINAL));
        for (Class<?> inside : ToastBelt.class.getDeclaredClasses()) {
            due(inside + " is static", Modifier.isStatic(inside.getModifiers()));
            for (Method m : inside.getDeclaredMethods()) {
                due(m + " bears no name of the face", !names.contains(m.getName()));
            }
        }
    }

    private static void words() throws IOException {
        String source = Files.readString(Path.of("src/main/java/ToastBelt.java"));
        String code = source.replaceAll("(?s)/\\*.*?\\*/", "").replaceAll("//[^\n]*", "");
        Matcher m = Pattern.compile("\\b(throw|throws|try|catch|finally|assert|synchronized|import|package|Exact|"
            + "System\\.(?!arraycopy)\\w+|Random|Thread|hashCode|toString)\\b|->|::").matcher(code);
        while (m.find()) {
            due("no '" + m.group() + "' in the file", false);
        }
        due("signs 1 to 127 alone", source.chars().allMatch(c -> c > 0 && c < 128));
    }

    /** Rule 11, and that what a class holds stays small. */
    private static void sizes() throws IOException {
        java.util.List<Class<?>> all = new java.util.ArrayList<>(java.util.List.of(ToastBelt.class.getDeclaredClasses()));
        all.add(ToastBelt.class);
        due("twelve classes at most", all.size() <= 12);
        for (Class<?> c : all) {
            long fields = java.util.Arrays.stream(c.getDeclaredFields()).filter(f -> !Modifier.isStatic(f.getModifiers())).count();
            due(c + " has twenty fields at most", fields <= 20);
            for (Method m : c.getDeclaredMethods()) {
                due(m + " takes seven numbers at most", m.getParameterCount() <= 7);
            }
        }
        int begun = 0, number = 0;
        for (String line : Files.readAllLines(Path.of("src/main/java/ToastBelt.java"))) {
            number++;
            due("line " + number + " has 120 letters at most", line.length() <= 120);
            // A method's first line and its last stand four or eight signs in.
            if (line.matches("( {4}| {8})(\\w.*)?\\w+\\(.*\\) \\{") && !line.matches(" *(if|for|while|switch) .*")) {
                begun = number;
            } else if (line.matches("( {4}| {8})}") && begun > 0) {
                due("the method of line " + begun + " is sixty lines at most", number - begun <= 60);
            }
        }
        due("methods were found", begun > 0);
    }

    private static void constants() {
        due("BAD is -1", ToastBelt.BAD == -1);
        due("NO is -2", ToastBelt.NO == -2);
        due("FULL is -3", ToastBelt.FULL == -3);
        due("NONE is -4", ToastBelt.NONE == -4);
    }

    public static void main(String[] args) throws IOException {
        members();
        words();
        sizes();
        constants();
        System.out.println(wrong == 0 ? "the face is as told" : wrong + " things are not so");
        if (wrong != 0) {
            System.exit(1);
        }
    }
}
