import java.io.IOException;
import java.lang.reflect.Constructor;
import java.lang.reflect.Executable;
import java.lang.reflect.Field;
import java.lang.reflect.Method;
import java.lang.reflect.Modifier;
import java.nio.file.Files;
import java.nio.file.Path;
import java.util.ArrayList;
import java.util.List;
import java.util.Set;
import java.util.TreeSet;
import java.util.regex.Matcher;
import java.util.regex.Pattern;

/** The public face is the document's and no more, and the class keeps out what the rules forbid. */
public final class FaceTest extends FramingTest {
    private static final Set<String> FACE = Set.of(
            "public static final int NONE", "public FramingTrio()",
            "public boolean feed(int,int,int,int,int)", "public boolean end(int)", "public boolean limit(int)",
            "public int tell(int)", "public int written()", "public int writtenAt(int)",
            "public boolean spoil(int,int)", "public int come(int,int)", "public int all(int)",
            "public int raw(int)", "public int latest(int)", "public int latestAt(int,int)",
            "public int count(int,int)");
    private static final Pattern FORBIDDEN = Pattern.compile(
            "\\b(throw|throws|try|catch|synchronized|assert|package|protected|hashCode)\\b|->|::|\\w+Exact\\b"
            + "|\\bimport\\s+(?!java\\.util\\.(ArrayList|List|Iterator|Arrays)\\s*;).*");
    /** A switch may have arrows; a lambda's is forbidden. */
    private static final String SWITCH_ARROW = "\\b(case\\b[^:;{}]*?|default\\s*)->";
    private static final Set<Class<?>> STATIC_TYPES = Set.of(int.class, long.class, boolean.class, char.class,
            String.class, int[].class, long[].class, char[].class, byte[].class);
    private static final int MOST_CLASSES = 12;
    private static final int MOST_FIELDS = 20;
    private static final int MOST_PARAMETERS = 7;

    public static void main(String[] args) throws IOException, ReflectiveOperationException {
        face();
        List<Class<?>> inside = new ArrayList<>();
        addInside(FramingTrio.class, inside);
        classesInside(inside);
        noPublicNameForAPrivateMethod(inside);
        staticFieldsAreConstants(inside);
        smallEnough(inside);
        noForbiddenWords();
        finish();
    }

    private static void face() throws ReflectiveOperationException {
        about("The public face:");
        Set<String> found = new TreeSet<>();
        for (Constructor<?> c : FramingTrio.class.getDeclaredConstructors()) {
            note(found, c.getModifiers(), c.toString());
        }
        for (Method m : FramingTrio.class.getDeclaredMethods()) {
            note(found, m.getModifiers(), m.toString());
        }
        for (Field f : FramingTrio.class.getDeclaredFields()) {
            note(found, f.getModifiers(), f.toString());
        }
        due("members", found.toString(), new TreeSet<>(FACE).toString());
        due("NONE", FramingTrio.class.getField("NONE").getInt(null), -1);
        due("class", Modifier.toString(FramingTrio.class.getModifiers()), "public final");
        due("package", FramingTrio.class.getPackageName(), "");
        due("above it", FramingTrio.class.getSuperclass().getName(), "java.lang.Object");
        due("interfaces", FramingTrio.class.getInterfaces().length, 0);
    }

    /** Whatever is not private counts; its modifiers and what it throws stand in its text. */
    private static void note(Set<String> found, int modifiers, String member) {
        if (!Modifier.isPrivate(modifiers)) {
            found.add(member.replace("FramingTrio.", ""));
        }
    }

    private static void addInside(Class<?> outer, List<Class<?>> inside) {
        for (Class<?> one : outer.getDeclaredClasses()) {
            inside.add(one);
            addInside(one, inside);
        }
    }

    private static void classesInside(List<Class<?>> inside) {
        about("LANGUAGE.md, rules 1 and 2:");
        for (Class<?> one : inside) {
            due(one + " is static", Modifier.isStatic(one.getModifiers()), true);
            due(one + " is public", Modifier.isPublic(one.getModifiers()), false);
            due(one + " is protected", Modifier.isProtected(one.getModifiers()), false);
        }
    }

    private static void noPublicNameForAPrivateMethod(List<Class<?>> inside) {
        about("LANGUAGE.md, rule 1:");
        Set<String> names = new TreeSet<>();
        for (Method m : FramingTrio.class.getMethods()) {
            names.add(m.getName());
        }
        for (Class<?> one : withOuter(inside)) {
            for (Method m : one.getDeclaredMethods()) {
                boolean isHidden = one != FramingTrio.class || Modifier.isPrivate(m.getModifiers());
                due(m + " bears a public one's name", isHidden && names.contains(m.getName()), false);
            }
        }
    }

    private static void staticFieldsAreConstants(List<Class<?>> inside) {
        about("LANGUAGE.md, rule 5:");
        for (Class<?> one : withOuter(inside)) {
            for (Field f : one.getDeclaredFields()) {
                if (Modifier.isStatic(f.getModifiers())) {
                    due(f + " is final", Modifier.isFinal(f.getModifiers()), true);
                    due(f + " is a constant", STATIC_TYPES.contains(f.getType()), true);
                }
            }
        }
    }

    private static void smallEnough(List<Class<?>> inside) {
        about("LANGUAGE.md, rule 11:");
        List<Class<?>> classes = withOuter(inside);
        due(classes.size() + " classes are few", classes.size() <= MOST_CLASSES, true);
        for (Class<?> one : classes) {
            int fields = 0;
            for (Field f : one.getDeclaredFields()) {
                fields += Modifier.isStatic(f.getModifiers()) ? 0 : 1;
            }
            due(one + " has few fields", fields <= MOST_FIELDS, true);
            fewParameters(one.getDeclaredMethods());
            fewParameters(one.getDeclaredConstructors());
        }
    }

    private static void fewParameters(Executable[] callables) {
        for (Executable each : callables) {
            due(each + " takes few parameters", each.getParameterCount() <= MOST_PARAMETERS, true);
        }
    }

    private static List<Class<?>> withOuter(List<Class<?>> inside) {
        List<Class<?>> classes = new ArrayList<>(inside);
        classes.add(FramingTrio.class);
        return classes;
    }

    private static void noForbiddenWords() throws IOException {
        about("LANGUAGE.md, rules 2, 4 and 6:");
        String source = Files.readString(Path.of("src/main/java/FramingTrio.java"));
        String code = source.replaceAll("(?s)/\\*.*?\\*/", "").replaceAll("//.*", "")
                .replaceAll(SWITCH_ARROW, "");
        Matcher m = FORBIDDEN.matcher(code);
        while (m.find()) {
            due("the source has " + m.group(), true, false);
        }
    }
}
