import java.io.IOException;
import java.lang.reflect.Constructor;
import java.lang.reflect.Field;
import java.lang.reflect.Method;
import java.lang.reflect.Modifier;
import java.nio.file.Files;
import java.nio.file.Path;
import java.util.Set;
import java.util.TreeSet;
import java.util.regex.Matcher;
import java.util.regex.Pattern;

/** The public face is the document's and no more, and the source keeps out what the rules forbid. */
public final class FaceTest {
    private static final Set<String> FACE = Set.of(
            "int NONE", "FramingTrio()",
            "boolean feed(int,int,int,int,int)", "boolean end(int)", "boolean limit(int)", "int tell(int)",
            "int written()", "int writtenAt(int)", "boolean spoil(int,int)", "int come(int,int)", "int all(int)",
            "int raw(int)", "int latest(int)", "int latestAt(int,int)", "int count(int,int)");
    private static final Pattern FORBIDDEN = Pattern.compile(
            "\\b(throw|throws|try|catch|synchronized|assert|package|protected|hashCode)\\b|->|::"
            + "|\\bimport\\s+(?!java\\.util\\.(ArrayList|List|Iterator|Arrays)\\s*;).*");
    /** A switch may have arrows; a lambda's is forbidden. */
    private static final String SWITCH_ARROW = "\\b(case\\b[^:;{}]*?|default\\s*)->";
    private static int wrong = 0;

    public static void main(String[] args) throws IOException {
        Set<String> found = new TreeSet<>();
        for (Constructor<?> c : FramingTrio.class.getDeclaredConstructors()) {
            note(found, c.getModifiers(), "FramingTrio" + types(c.getParameterTypes()));
        }
        for (Method m : FramingTrio.class.getDeclaredMethods()) {
            note(found, m.getModifiers(), m.getReturnType() + " " + m.getName() + types(m.getParameterTypes()));
        }
        for (Field f : FramingTrio.class.getDeclaredFields()) {
            note(found, f.getModifiers(), f.getType() + " " + f.getName());
            check(!Modifier.isStatic(f.getModifiers()) || Modifier.isFinal(f.getModifiers()), "static state " + f);
        }
        check(found.equals(new TreeSet<>(FACE)), "the face is " + found);
        check(Modifier.isFinal(FramingTrio.class.getModifiers()), "the class is not final");
        for (Class<?> inside : FramingTrio.class.getDeclaredClasses()) {
            check(Modifier.isStatic(inside.getModifiers()), inside + " is not static");
            check(!Modifier.isPublic(inside.getModifiers()), inside + " is public");
        }
        noForbiddenWords();
        System.out.println(wrong == 0 ? "the face is as due" : wrong + " things are not as due");
        if (wrong != 0) {
            System.exit(1);
        }
    }

    private static void note(Set<String> found, int modifiers, String member) {
        if (!Modifier.isPrivate(modifiers)) {
            found.add(member);
            check(Modifier.isPublic(modifiers), member + " is neither public nor private");
        }
    }

    private static String types(Class<?>[] parameters) {
        StringBuilder text = new StringBuilder("(");
        for (Class<?> parameter : parameters) {
            text.append(text.length() > 1 ? "," : "").append(parameter.getName());
        }
        return text.append(")").toString();
    }

    private static void noForbiddenWords() throws IOException {
        String source = Files.readString(Path.of("src/main/java/FramingTrio.java"));
        String code = source.replaceAll("(?s)/\\*.*?\\*/", "").replaceAll("//.*", "")
                .replaceAll(SWITCH_ARROW, "");
        Matcher m = FORBIDDEN.matcher(code);
        while (m.find()) {
            check(false, "forbidden in the source: " + m.group());
        }
    }

    private static void check(boolean fine, String fault) {
        if (!fine) {
            wrong++;
            System.out.println(fault);
        }
    }
}
