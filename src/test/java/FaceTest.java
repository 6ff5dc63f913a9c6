import java.io.IOException;
import java.lang.reflect.Constructor;
import java.lang.reflect.Field;
import java.lang.reflect.Method;
import java.lang.reflect.Modifier;
import java.nio.file.Files;
import java.nio.file.Path;
import java.util.Set;
import java.util.TreeSet;
import java.util.regex.Matcher;
import java.util.regex.Pattern;

/** Promises 1 to 38: the class has just the face that the document tells, and nothing else can be reached. */
public final class FaceTest {
    private static final Path DOCUMENT = Path.of("../shared/DOC.md");
    private static final Due due = new Due("FaceTest");

    public static void main(String[] args) throws IOException {
        Set<String> told = toldFace();
        due.is("calls that the document tells", told.size(), 37);
        Set<String> open = openCalls();
        for (String call : told) {
            due.is(call + " is missing", open.contains(call) ? 0 : 1, 0);
        }
        for (String call : open) {
            due.is(call + " is not told", told.contains(call) ? 0 : 1, 0);
        }
        theClass();
        due.end();
    }

    /** As in "int sell(int, int)". */
    private static Set<String> toldFace() throws IOException {
        Set<String> face = new TreeSet<>();
        Pattern call = Pattern.compile("(?m)^    public (\\w+) (\\w+)\\(([^)]*)\\);$");
        for (Matcher m = call.matcher(Files.readString(DOCUMENT)); m.find(); ) {
            face.add(m.group(1) + " " + m.group(2) + "(" + m.group(3).replaceAll("(\\w+) \\w+", "$1") + ")");
        }
        return face;
    }

    private static Set<String> openCalls() {
        Set<String> open = new TreeSet<>();
        for (Method m : PromisedFish.class.getDeclaredMethods()) {
            if (Modifier.isPrivate(m.getModifiers())) {
                continue;
            }
            StringBuilder types = new StringBuilder();
            for (Class<?> type : m.getParameterTypes()) {
                types.append(types.length() == 0 ? "" : ", ").append(type.getName());
            }
            due.is(m.getName() + " is public and of each object", m.getModifiers(), Modifier.PUBLIC);
            open.add(m.getReturnType().getName() + " " + m.getName() + "(" + types + ")");
        }
        return open;
    }

    private static void theClass() {
        due.is("public and final", PromisedFish.class.getModifiers(), Modifier.PUBLIC | Modifier.FINAL);
        due.is("it stands above no class and under Object", PromisedFish.class.getSuperclass() == Object.class ? 1 : 0, 1);
        due.is("interfaces", PromisedFish.class.getInterfaces().length, 0);
        Constructor<?>[] makers = PromisedFish.class.getDeclaredConstructors();
        due.is("constructors", makers.length, 1);
        due.is("the constructor is public", makers[0].getModifiers(), Modifier.PUBLIC);
        due.is("its parameters", makers[0].getParameterCount(), 0);
        for (Field f : PromisedFish.class.getDeclaredFields()) {
            due.is("field " + f.getName() + " is private", Modifier.isPrivate(f.getModifiers()) ? 1 : 0, 1);
        }
        for (Class<?> inside : PromisedFish.class.getDeclaredClasses()) {
            due.is(inside.getName() + " is static", Modifier.isStatic(inside.getModifiers()) ? 1 : 0, 1);
            due.is(inside.getName() + " is not public", Modifier.isPublic(inside.getModifiers()) ? 1 : 0, 0);
        }
    }
}
