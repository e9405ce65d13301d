import java.io.IOException;
import java.lang.reflect.Constructor;
import java.lang.reflect.Field;
import java.lang.reflect.Method;
import java.lang.reflect.Modifier;
import java.nio.charset.StandardCharsets;
import java.nio.file.Files;
import java.nio.file.Path;
import java.util.ArrayList;
import java.util.Arrays;
import java.util.List;
import java.util.TreeSet;

/** The class shows the document's face and nothing else, in the Java that LANGUAGE.md leaves. */
public final class FaceTest {
    private static final String[] FACE = {
        "clean(int,int) IndexOutOfBounds,IllegalArgument,IllegalState",
        "colour(int,int) IndexOutOfBounds,IllegalArgument",
        "damp(int,int) IndexOutOfBounds,IllegalArgument",
        "has(int,int) IndexOutOfBounds",
        "layer(int,int,int) IndexOutOfBounds",
        "left(int) IndexOutOfBounds",
        "lend(int,int,int) IndexOutOfBounds,IllegalArgument,IllegalState",
        "of(int,int) IndexOutOfBounds,IllegalArgument",
        "paid(int) IndexOutOfBounds",
        "paint(int,int,int) IndexOutOfBounds,IllegalArgument,IllegalState",
        "pass(int) IllegalArgument,IllegalState",
        "picture() IllegalState",
        "pigment(int,int,int) IllegalArgument,IllegalState",
        "pot() IllegalState",
        "pour(int,int,int) IndexOutOfBounds,IllegalArgument,IllegalState",
        "recipe(int,int,int) IllegalArgument",
        "scrape(int) IndexOutOfBounds",
        "sell(int,int) IndexOutOfBounds,IllegalArgument,IllegalState",
        "squeeze(int,int,int) IndexOutOfBounds,IllegalArgument,IllegalState",
        "tube(int,int) IndexOutOfBounds,IllegalArgument,IllegalState",
        "where(int,int) IndexOutOfBounds,IllegalArgument",
    };

    public static void main(String[] args) throws IOException {
        Class<?> type = AtelierBook.class;
        Checks.same("public and final", Modifier.PUBLIC | Modifier.FINAL, type.getModifiers());
        Checks.same("NONE", -1, AtelierBook.NONE);
        methods(type);
        constructors(type);
        fields(type);
        source(Path.of(args[0]));
        Checks.end("FaceTest");
    }

    private static void methods(Class<?> type) {
        List<String> face = new ArrayList<>();
        TreeSet<String> names = new TreeSet<>();
        for (Method method : type.getDeclaredMethods()) {
            if (Modifier.isPublic(method.getModifiers())) {
                face.add(text(method));
                names.add(method.getName());
                Checks.same(method + " returns", int.class, method.getReturnType());
            }
        }
        face.sort(null);
        Checks.same("the methods", Arrays.asList(FACE), face);
        for (Method method : type.getDeclaredMethods()) {
            boolean hidden = Modifier.isPrivate(method.getModifiers());
            if (!hidden) {
                Checks.same(method + " is of the face", true, face.contains(text(method)));
            } else {
                Checks.same(method + " has a public name", false, names.contains(method.getName()));
            }
        }
    }

    private static String text(Method method) {
        StringBuilder text = new StringBuilder(method.getName()).append('(');
        String comma = "";
        for (Class<?> parameter : method.getParameterTypes()) {
            text.append(comma).append(parameter.getName());
            comma = ",";
        }
        text.append(")");
        comma = " ";
        for (Class<?> thrown : method.getExceptionTypes()) {
            text.append(comma).append(thrown.getSimpleName().replace("Exception", ""));
            comma = ",";
        }
        return text.toString();
    }

    private static void constructors(Class<?> type) {
        Constructor<?>[] all = type.getDeclaredConstructors();
        Checks.same("one constructor", 1, all.length);
        Checks.same("of no parameters", 0, all[0].getParameterCount());
        Checks.same("it is public", Modifier.PUBLIC, all[0].getModifiers());
    }

    private static void fields(Class<?> type) {
        for (Field field : type.getDeclaredFields()) {
            int modifiers = field.getModifiers();
            boolean none = field.getName().equals("NONE");
            Checks.same(field + " is public", none, Modifier.isPublic(modifiers));
            Checks.same(field + " is private", !none, Modifier.isPrivate(modifiers));
            if (Modifier.isStatic(modifiers)) {
                Checks.same(field + " is final", true, Modifier.isFinal(modifiers));
            }
        }
    }

    /** Signs of what the language page leaves out; what is written in comments counts, too. */
    private static void source(Path file) throws IOException {
        String text = Files.readString(file, StandardCharsets.ISO_8859_1);
        Checks.same("plain characters", true, text.chars().allMatch(c -> c >= 1 && c <= 127));
        for (String out : new String[] {"->", "::", "import ", "package ", "catch", "finally",
            "synchronized", "assert", "static {", "double", "float", "System.", "\" +", "+ \""}) {
            Checks.same("source without " + out, false, text.contains(out));
        }
    }
}
