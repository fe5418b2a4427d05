import java.io.IOException;
import java.lang.reflect.Constructor;
import java.lang.reflect.Field;
import java.lang.reflect.Method;
import java.lang.reflect.Modifier;
import java.nio.file.Files;
import java.nio.file.Path;
import java.util.Arrays;
import java.util.HashSet;
import java.util.Set;
import java.util.TreeSet;

/** The document's face is all that can be called, and the source keeps to what can be read off it. */
public final class FaceTest {
    private static final Due due = new Due();
    private static final String[] FACE = {
        "int pond(int,int)", "int dig(int,int,int)", "int thing(int,int)", "int of(int,int)", "int change(int,int,int)",
        "int rain(int)", "int go(int)", "int now(int)", "int chain(int,int,int)", "int through(int,int)",
        "int upright(int)", "int large(int,int,int)", "int round(int)", "int rounds()", "int before(int)",
        "int shownBy(int)", "int ahead(int,int)", "int comes(int,int)", "int seen(int,int)", "int meet(int,int)",
        "int cast(int,int)", "int kindFor(int)", "int fits(int,int)", "int lens(int,int)", "int which(int)",
        "int eyes()", "int dredge(int,int)", "int watch(int)", "int falls(int)", "long odds(int,int)", "int seed(int)",
        "int feed(int,int)", "int wipe()", "int text()", "int hold(int,int)", "int as(int,int)",
        "int sheet(int,int,int)", "int write(int,int,int)", "int copy(int,int,int,int,int)", "int load(int)",
        "int judge(int)", "int image()", "int undo()", "int tear()", "int count(int)", "int status(int)",
    };
    private static final String[] NO_WORDS = {
        "throw", "throws", "try", "catch", "finally", "synchronized", "assert", "import", "package", "double", "float",
        "System.out", "Exact(", "->", "::", "@",
    };

    public static void main(String[] args) throws IOException {
        members();
        source();
        due.end();
    }

    private static void members() {
        Class<?> face = PondLenses.class;
        due.is("public and final", Modifier.PUBLIC | Modifier.FINAL, face.getModifiers());
        due.is("constructors", 1, face.getDeclaredConstructors().length);
        for (Constructor<?> constructor : face.getDeclaredConstructors()) {
            due.is("public constructor", Modifier.PUBLIC, constructor.getModifiers());
            due.is("without arguments", 0, constructor.getParameterCount());
        }
        Set<String> shown = new TreeSet<>();
        Set<String> names = new HashSet<>();
        for (Method method : face.getDeclaredMethods()) {
            if (Modifier.isPublic(method.getModifiers())) {
                shown.add(form(method));
                names.add(method.getName());
            }
        }
        Set<String> wanted = new TreeSet<>(Arrays.asList(FACE));
        due.is("the face: " + shown, 1, shown.equals(wanted) ? 1 : 0);
        for (Method method : face.getDeclaredMethods()) {
            boolean own = Modifier.isPrivate(method.getModifiers()) && !names.contains(method.getName());
            due.is(method + " is of the face or private", 1, own || Modifier.isPublic(method.getModifiers()) ? 1 : 0);
        }
        for (Field field : face.getDeclaredFields()) {
            due.is(field + " is private", 1, Modifier.isPrivate(field.getModifiers()) ? 1 : 0);
        }
        for (Class<?> inner : face.getDeclaredClasses()) {
            due.is(inner + " is static", 1, Modifier.isStatic(inner.getModifiers()) ? 1 : 0);
            for (Method method : inner.getDeclaredMethods()) {
                due.is(method + " has a name of its own", 0, names.contains(method.getName()) ? 1 : 0);
            }
        }
    }

    private static String form(Method method) {
        StringBuilder form = new StringBuilder();
        form.append(method.getReturnType().getName()).append(' ').append(method.getName()).append('(');
        for (int i = 0; i < method.getParameterCount(); i++) {
            form.append(i == 0 ? "" : ",").append(method.getParameterTypes()[i].getName());
        }
        return form.append(')').toString();
    }

    private static void source() throws IOException {
        String text = Files.readString(Path.of("src/main/java/PondLenses.java"));
        String code = text.replaceAll("(?s)/\\*.*?\\*/", " ").replaceAll("//[^\n]*", " ");
        for (String word : NO_WORDS) {
            boolean letters = Character.isLetter(word.charAt(0)) && word.indexOf('(') < 0 && word.indexOf('.') < 0;
            String found = letters ? "(?s).*\\b" + word + "\\b.*" : "(?s).*" + java.util.regex.Pattern.quote(word) + ".*";
            due.is("the source says " + word, 0, code.matches(found) ? 1 : 0);
        }
        boolean plain = text.chars().allMatch(c -> c == '\n' || c >= 32 && c < 127);
        due.is("the source is of plain signs", 1, plain ? 1 : 0);
    }
}
