import java.io.IOException;
import java.lang.reflect.Constructor;
import java.lang.reflect.Field;
import java.lang.reflect.Method;
import java.lang.reflect.Modifier;
import java.nio.file.Files;
import java.nio.file.Path;
import java.util.ArrayList;
import java.util.Collections;
import java.util.HashSet;
import java.util.List;
import java.util.Set;

/** The face of the class is that of the document, and its source keeps to what can be seen of LANGUAGE.md. */
public final class FaceTest {

    private static final String INDEX = " IndexOutOfBoundsException";
    private static final String STATE = " IllegalStateException";
    private static final String ARGUMENT = " IllegalArgumentException";

    private static final String[] FACE = {
        "int feed(int,int,int,int,int)" + STATE, "int trim(int)" + ARGUMENT, "int teach()", "int errorAt()",
        "int drones()", "int deals()", "int day()", "int ordersCarriedOut()", "int blocked()", "int honey()",
        "boolean isQueenAwake()", "int honeyOf(int)" + INDEX, "boolean isAwake(int)" + INDEX,
        "int blockedBy(int)" + INDEX, "int logOf(int)" + INDEX, "int stateOf(int)" + INDEX, "int waitsOf(int)" + INDEX,
        "int partsOf(int)" + INDEX, "int droneIn(int,int)" + INDEX, "int changeIn(int,int)" + INDEX,
        "int voteIn(int,int)" + INDEX, "boolean hasHeard(int,int)" + INDEX, "int votesFor(int)" + INDEX,
        "boolean wouldAgree(int)" + INDEX, "int begin(int)" + INDEX + STATE, "int crash(int)" + INDEX + STATE,
        "int wake(int)" + INDEX + STATE, "int crashQueen()" + STATE, "int wakeQueen()" + STATE,
        "int passDays(int)" + ARGUMENT, "int honeyAfter(int,int)" + INDEX + ARGUMENT,
        "int stateAfter(int,int)" + INDEX + ARGUMENT, "int daysUntilFree(int)" + INDEX, "int bestToWake()",
        "double meanHoney()", "long digest()"};

    public static void main(String[] args) throws IOException {
        methodsAreThoseOfTheDocument();
        nothingElseCanBeSeen();
        noPrivateMethodBearsAPublicName();
        sourceKeepsToTheLanguage();
        Check.finish();
    }

    private static void methodsAreThoseOfTheDocument() {
        List<String> due = new ArrayList<>(List.of(FACE));
        List<String> got = new ArrayList<>();
        for (Method method : HoneyAccord.class.getDeclaredMethods()) {
            if (!Modifier.isPrivate(method.getModifiers())) {
                Check.same(method.getName() + " is public, not static", Modifier.PUBLIC, method.getModifiers());
                got.add(described(method));
            }
        }
        Collections.sort(due);
        Collections.sort(got);
        Check.so("the face is " + due + " and not " + got, due.equals(got));
    }

    private static String described(Method method) {
        List<String> takes = new ArrayList<>();
        for (Class<?> type : method.getParameterTypes()) {
            takes.add(type.getSimpleName());
        }
        StringBuilder text = new StringBuilder();
        text.append(method.getReturnType().getSimpleName()).append(' ').append(method.getName());
        text.append('(').append(String.join(",", takes)).append(')');
        for (Class<?> type : method.getExceptionTypes()) {
            text.append(' ').append(type.getSimpleName());
        }
        return text.toString();
    }

    private static void nothingElseCanBeSeen() {
        Check.same("the class is public and final", Modifier.PUBLIC | Modifier.FINAL, HoneyAccord.class.getModifiers());
        for (Field field : HoneyAccord.class.getDeclaredFields()) {
            Check.so(field + " is private", Modifier.isPrivate(field.getModifiers()));
        }
        Constructor<?>[] constructors = HoneyAccord.class.getDeclaredConstructors();
        Check.same("constructors", 1, constructors.length);
        Check.so("it is public", Modifier.isPublic(constructors[0].getModifiers()));
        Check.same("its parameters", 0, constructors[0].getParameterCount());
        for (Class<?> inside : HoneyAccord.class.getDeclaredClasses()) {
            Check.so(inside + " is static", Modifier.isStatic(inside.getModifiers()));
            Check.notSo(inside + " is public", Modifier.isPublic(inside.getModifiers()));
        }
    }

    private static void noPrivateMethodBearsAPublicName() {
        Set<String> names = new HashSet<>();
        for (String method : FACE) {
            names.add(method.substring(method.indexOf(' ') + 1, method.indexOf('(')));
        }
        List<Class<?>> classes = new ArrayList<>(List.of(HoneyAccord.class.getDeclaredClasses()));
        classes.add(HoneyAccord.class);
        for (Class<?> one : classes) {
            for (Method method : one.getDeclaredMethods()) {
                boolean isFace = one == HoneyAccord.class && Modifier.isPublic(method.getModifiers());
                Check.so(method + " has a name of its own", isFace || !names.contains(method.getName()));
            }
        }
    }

    private static void sourceKeepsToTheLanguage() throws IOException {
        String source = Files.readString(Path.of("src/main/java/HoneyAccord.java"));
        for (String word : new String[] {"import ", "package ", "->", "::", "catch", "finally", "synchronized", "assert ",
            "instanceof", "static {", "Exact(", "NaN", "java.", "System.", "Object "}) {
            Check.notSo("the source has " + word, source.contains(word));
        }
        boolean plain = true;
        for (int i = 0; i < source.length(); i++) {
            plain = plain && source.charAt(i) < 128;
        }
        Check.so("the source has signs of ASCII alone", plain);
    }
}
