import java.io.IOException;
import java.lang.reflect.Constructor;
import java.lang.reflect.Field;
import java.lang.reflect.Method;
import java.lang.reflect.Modifier;
import java.nio.file.Files;
import java.nio.file.Path;
import java.util.ArrayList;
import java.util.Arrays;
import java.util.List;
import java.util.TreeSet;
import java.util.regex.Matcher;
import java.util.regex.Pattern;

/** The public face: every member of the document, with its throws clause, and no other one. */
public final class FaceTest {
    private static final String I = " IndexOutOfBoundsException";
    private static final String A = " IllegalArgumentException";
    private static final String S = " IllegalStateException";

    private static final String[] FACE = {
        "int load(int,int)" + I + A + S,
        "int quote(int,int)" + I + A,
        "int lock(int,int)" + I,
        "int exchange(int,int,int,int)" + I + A + S,
        "int hold(int,int,int)" + I + A + S,
        "int pay(int,int)" + I + A + S,
        "int letGo(int)" + I,
        "int dispute(int)" + I + S,
        "int decide(int,boolean)" + I + S,
        "int close(int)" + I + S,
        "int pass(int)" + A + S,
        "int set(int,int)" + I + A,
        "int append(int)" + A + S,
        "int clearBuffer()",
        "int firstError()",
        "int run()" + A,
        "int undo()" + S,
        "int purse(int,int,int)" + I + A,
        "int held(int,int)" + I + A,
        "int payment(int,int)" + I + A,
        "int count(int)" + A,
        "int setting(int)" + I,
        "int ifExchanged(int,int,int,int)" + I + A,
        "int needed(int,int,int)" + I + A,
        "int room(int,int)" + I,
        "int whyNot(int,int,int,int,int)" + I + A,
        "int ifClosed(int)" + I,
        "double heldShare(int,int)" + I,
        "long digest()",
    };

    private static final Pattern HEADED = Pattern.compile(
            "Ahead of the calls (.*) the interface says: (---- .*)\\.");
    private static final Pattern CALL = Pattern.compile("\n    public \\w+ (\\w+)\\(");

    public static void main(String[] args) throws IOException {
        Check check = new Check("FaceTest");
        Class<?> face = TravelPurses.class;
        check.is("modifiers of the class", face.getModifiers(), Modifier.PUBLIC | Modifier.FINAL);
        check.is("NONE", TravelPurses.NONE, -1);
        methodsAreThoseOfTheDocument(check, face);
        otherMembersAreHidden(check, face);
        headingsStandAheadOfTheirCalls(check);
        check.end();
    }

    private static void methodsAreThoseOfTheDocument(Check check, Class<?> face) {
        TreeSet<String> found = new TreeSet<>();
        TreeSet<String> names = new TreeSet<>();
        List<Method> hidden = new ArrayList<>();
        for (Method method : face.getDeclaredMethods()) {
            if (Modifier.isPrivate(method.getModifiers())) {
                hidden.add(method);
            } else {
                found.add(signature(method));
                names.add(method.getName());
                check.is("modifiers of " + method.getName(), method.getModifiers(),
                        Modifier.PUBLIC);
            }
        }
        TreeSet<String> due = new TreeSet<>(Arrays.asList(FACE));
        check.isText("methods", found.toString(), due.toString());
        for (Method method : hidden) {
            if (names.contains(method.getName())) {
                check.fail("a private method bears the public name " + method.getName());
            }
        }
    }

    private static void otherMembersAreHidden(Check check, Class<?> face) {
        for (Field field : face.getDeclaredFields()) {
            boolean isPublic = field.getName().equals("NONE");
            check.is("hidden or of the document: field " + field.getName(),
                    field.getModifiers() & (Modifier.PUBLIC | Modifier.PRIVATE),
                    isPublic ? Modifier.PUBLIC : Modifier.PRIVATE);
            if (Modifier.isStatic(field.getModifiers())) {
                check.is("final: field " + field.getName(),
                        Modifier.isFinal(field.getModifiers()) ? 1 : 0, 1);
            }
        }
        Constructor<?>[] constructors = face.getDeclaredConstructors();
        check.is("constructors", constructors.length, 1);
        check.is("parameters of the constructor", constructors[0].getParameterCount(), 0);
        check.is("modifiers of the constructor", constructors[0].getModifiers(), Modifier.PUBLIC);
    }

    /** Behind each heading, up to the next one, stand its calls and no others, in their order. */
    private static void headingsStandAheadOfTheirCalls(Check check) throws IOException {
        String source = Files.readString(Path.of("src/main/java/TravelPurses.java"));
        int headings = 0;
        for (String line : Files.readAllLines(Path.of("../shared/DOC.md"))) {
            Matcher headed = HEADED.matcher(line);
            if (headed.matches()) {
                headings++;
                check.isText("calls behind " + headed.group(2),
                        callsBehind(source, headed.group(2)), headed.group(1).replace("`", ""));
            }
        }
        check.is("headings of the document", headings, 5);
    }

    private static String callsBehind(String source, String heading) {
        int start = source.indexOf("\n    // " + heading + "\n");
        if (start < 0) {
            return "no such heading";
        }
        int end = source.indexOf("\n    // ----", start + 1);
        Matcher call = CALL.matcher(source.substring(start, end < 0 ? source.length() : end));
        List<String> names = new ArrayList<>();
        while (call.find()) {
            names.add(call.group(1));
        }
        return String.join(", ", names);
    }

    private static String signature(Method method) {
        StringBuilder text = new StringBuilder(method.getReturnType().getSimpleName());
        text.append(' ').append(method.getName()).append('(');
        for (int i = 0; i < method.getParameterCount(); i++) {
            text.append(i > 0 ? "," : "");
            text.append(method.getParameterTypes()[i].getSimpleName());
        }
        text.append(')');
        for (Class<?> thrown : method.getExceptionTypes()) {
            text.append(' ').append(thrown.getSimpleName());
        }
        return text.toString();
    }
}
