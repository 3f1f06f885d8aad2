import java.io.IOException;
import java.lang.reflect.Constructor;
import java.lang.reflect.Field;
import java.lang.reflect.Method;
import java.lang.reflect.Modifier;
import java.nio.charset.StandardCharsets;
import java.nio.file.Files;
import java.nio.file.Path;
import java.util.Set;
import java.util.TreeSet;

/** The class shows the document's face and nothing else. The source's path is the one argument. */
public final class FaceTest {
    private static final Path DOCUMENT = Path.of("../shared/DOC.md");
    private static final String[] FACE = {
        "field int NONE", "field int UNKNOWN", "field int OUTSIDE", "field int STATE", "field int FULL",
        "new 0",
        "int letter 1", "int blank 0", "int fault 0", "int sign 0", "int hue 1", "int layer 2",
        "int person 3", "int about 2", "int as 2", "int sees 2", "int eye 3", "int ink 1", "int inkOf 1",
        "int word 1", "int unword 1", "int differ 2", "int alike 2", "int few 1",
        "int card 2", "int forget 0", "int who 1", "int next 0", "int ageing 4",
        "int image 0", "int restore 0", "int count 1", "long digest 0",
    };

    public static void main(String[] args) throws IOException {
        Due due = new Due("the face");
        Set<String> asked = new TreeSet<>(Set.of(FACE));
        due.same("members that are not private", shown(), asked);
        due.yes("the class is public and final",
                Modifier.isPublic(EachEye.class.getModifiers()) && Modifier.isFinal(EachEye.class.getModifiers()));
        for (Class<?> inside : EachEye.class.getDeclaredClasses()) {
            due.yes(inside.getName() + " is static", Modifier.isStatic(inside.getModifiers()));
            due.yes(inside.getName() + " is not public", !Modifier.isPublic(inside.getModifiers()));
        }
        due.yes("no private method bears the name of a public one", privateNamesAreOwn());
        due.same("NONE", EachEye.NONE, -1);
        due.same("UNKNOWN", EachEye.UNKNOWN, -101);
        due.same("OUTSIDE", EachEye.OUTSIDE, -102);
        due.same("STATE", EachEye.STATE, -103);
        due.same("FULL", EachEye.FULL, -104);
        lookAtLines(due, Path.of(args.length > 0 ? args[0] : "src/main/java/EachEye.java"));
        due.end();
    }

    /** The lines of the document's code block stand in the source, in their order, names and all. */
    private static void lookAtLines(Due due, Path path) throws IOException {
        if (!Files.exists(DOCUMENT)) {
            System.out.println("the document is not here: the lines of its face are not looked at");
            return;
        }
        String document = Files.readString(DOCUMENT, StandardCharsets.UTF_8);
        String block = document.substring(document.indexOf("## The public face"), document.indexOf("## Terms"));
        String source = Files.readString(path, StandardCharsets.UTF_8);
        int from = 0;
        for (String line : block.lines().filter(line -> line.strip().startsWith("public ")).toList()) {
            int at = source.indexOf(line.endsWith(");") ? line.replace(");", ") {") : line, from);
            due.yes("the source has, in its place, the line " + line, at >= 0);
            from = Math.max(from, at);
        }
        due.yes("the document shows a face", from > 0);
    }

    private static Set<String> shown() {
        Set<String> names = new TreeSet<>();
        for (Field field : EachEye.class.getDeclaredFields()) {
            if (!Modifier.isPrivate(field.getModifiers())) {
                names.add("field " + field.getType().getSimpleName() + " " + field.getName());
            }
        }
        for (Constructor<?> made : EachEye.class.getDeclaredConstructors()) {
            if (!Modifier.isPrivate(made.getModifiers())) {
                names.add("new " + made.getParameterCount());
            }
        }
        for (Method method : EachEye.class.getDeclaredMethods()) {
            if (!Modifier.isPrivate(method.getModifiers())) {
                names.add(method.getReturnType() + " " + method.getName() + " " + method.getParameterCount());
            }
        }
        return names;
    }

    private static boolean privateNamesAreOwn() {
        Set<String> open = new TreeSet<>();
        for (Method method : EachEye.class.getDeclaredMethods()) {
            if (Modifier.isPublic(method.getModifiers())) {
                open.add(method.getName());
            }
        }
        for (Method method : EachEye.class.getDeclaredMethods()) {
            if (Modifier.isPrivate(method.getModifiers()) && open.contains(method.getName())) {
                return false;
            }
        }
        return true;
    }
}
