import java.lang.reflect.Constructor;
import java.lang.reflect.Field;
import java.lang.reflect.Method;
import java.lang.reflect.Modifier;
import java.util.ArrayList;
import java.util.Arrays;
import java.util.List;
import java.util.TreeSet;

/** The public face: every member of the document, with its throws clause, and no other one. */
public final class FaceTest {
    private static final String I = " IndexOutOfBoundsException";
    private static final String A = " IllegalArgumentException";
    private static final String S = " IllegalStateException";

    private static final String[] FACE = {
        "int load(int,int)" + I + A + S,
        "int quote(int,int)" + I + A,
        "int lock(int,int)" + I,
        "int exchange(int,int,int,int)" + I + A + S,
        "int hold(int,int,int)" + I + A + S,
        "int pay(int,int)" + I + A + S,
        "int letGo(int)" + I,
        "int dispute(int)" + I + S,
        "int decide(int,boolean)" + I + S,
        "int close(int)" + I + S,
        "int pass(int)" + A + S,
        "int set(int,int)" + I + A,
        "int append(int)" + A + S,
        "int clearBuffer()",
        "int firstError()",
        "int run()" + A,
        "int undo()" + S,
        "int purse(int,int,int)" + I + A,
        "int held(int,int)" + I + A,
        "int payment(int,int)" + I + A,
        "int count(int)" + A,
        "int setting(int)" + I,
        "int ifExchanged(int,int,int,int)" + I + A,
        "int needed(int,int,int)" + I + A,
        "int room(int,int)" + I,
        "int whyNot(int,int,int,int,int)" + I + A,
        "int ifClosed(int)" + I,
        "double heldShare(int,int)" + I,
        "long digest()",
    };

    public static void main(String[] args) {
        Check check = new Check("FaceTest");
        Class<?> face = TravelPurses.class;
        check.is("modifiers of the class", face.getModifiers(), Modifier.PUBLIC | Modifier.FINAL);
        check.is("NONE", TravelPurses.NONE, -1);
        methodsAreThoseOfTheDocument(check, face);
        otherMembersAreHidden(check, face);
        check.end();
    }

    private static void methodsAreThoseOfTheDocument(Check check, Class<?> face) {
        TreeSet<String> found = new TreeSet<>();
        TreeSet<String> names = new TreeSet<>();
        List<Method> hidden = new ArrayList<>();
        for (Method method : face.getDeclaredMethods()) {
            if (Modifier.isPrivate(method.getModifiers())) {
                hidden.add(method);
            } else {
                found.add(signature(method));
                names.add(method.getName());
                check.is("modifiers of " + method.getName(), method.getModifiers(),
                        Modifier.PUBLIC);
            }
        }
        TreeSet<String> due = new TreeSet<>(Arrays.asList(FACE));
        check.isText("methods", found.toString(), due.toString());
        for (Method method : hidden) {
            if (names.contains(method.getName())) {
                check.fail("a private method bears the public name " + method.getName());
            }
        }
    }

    private static void otherMembersAreHidden(Check check, Class<?> face) {
        for (Field field : face.getDeclaredFields()) {
            boolean isPublic = field.getName().equals("NONE");
            check.is("hidden or of the document: field " + field.getName(),
                    field.getModifiers() & (Modifier.PUBLIC | Modifier.PRIVATE),
                    isPublic ? Modifier.PUBLIC : Modifier.PRIVATE);
            if (Modifier.isStatic(field.getModifiers())) {
                check.is("final: field " + field.getName(),
                        Modifier.isFinal(field.getModifiers()) ? 1 : 0, 1);
            }
        }
        Constructor<?>[] constructors = face.getDeclaredConstructors();
        check.is("constructors", constructors.length, 1);
        check.is("parameters of the constructor", constructors[0].getParameterCount(), 0);
        check.is("modifiers of the constructor", constructors[0].getModifiers(), Modifier.PUBLIC);
    }

    private static String signature(Method method) {
        StringBuilder text = new StringBuilder(method.getReturnType().getSimpleName());
        text.append(' ').append(method.getName()).append('(');
        for (int i = 0; i < method.getParameterCount(); i++) {
            text.append(i > 0 ? "," : "");
            text.append(method.getParameterTypes()[i].getSimpleName());
        }
        text.append(')');
        for (Class<?> thrown : method.getExceptionTypes()) {
            text.append(' ').append(thrown.getSimpleName());
        }
        return text.toString();
    }
}
