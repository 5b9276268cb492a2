import java.lang.reflect.Constructor;
import java.lang.reflect.Field;
import java.lang.reflect.Member;
import java.lang.reflect.Method;
import java.lang.reflect.Modifier;
import java.util.Set;
import java.util.TreeSet;

/** The public face: every member of the document, and no other that is not private. */
final class FaceTest {
    private static final Set<String> METHODS = Set.of(
        "int discriminant(int)", "int form(int,int)", "int reduce(int,int,int)", "int reduced(int)",
        "int compose(int,int)", "int inverse(int)", "int power(int,int)", "int order(int)",
        "int genus(int)", "int genera()", "int values(int,int,boolean)", "int prime(int,int)",
        "boolean put(int,int)", "void clear()", "int word()");

    public static void main(String[] args) {
        Check check = new Check("FaceTest");
        check.is("public final", Modifier.isPublic(FormDesk.class.getModifiers())
            && Modifier.isFinal(FormDesk.class.getModifiers()));
        Set<String> found = new TreeSet<>();
        for (Method m : FormDesk.class.getDeclaredMethods()) {
            if (isSeen(m)) {
                found.add(signature(m));
            }
        }
        check.is("the methods are the document's: " + found, found.equals(METHODS));
        for (Method m : FormDesk.class.getDeclaredMethods()) {
            check.is("no private namesake: " + m, isSeen(m) || !bearsFaceName(m));
        }
        Constructor<?>[] makers = FormDesk.class.getDeclaredConstructors();
        check.is("one public constructor without parameters", makers.length == 1
            && Modifier.isPublic(makers[0].getModifiers()) && makers[0].getParameterCount() == 0);
        for (Field f : FormDesk.class.getDeclaredFields()) {
            check.is("no other field is seen: " + f, !isSeen(f) || f.getName().equals("NONE"));
            check.is("a static field is final: " + f,
                !Modifier.isStatic(f.getModifiers()) || Modifier.isFinal(f.getModifiers()));
        }
        check.same("NONE", FormDesk.NONE, -1);
        for (Class<?> inside : FormDesk.class.getDeclaredClasses()) {
            check.is("static inside: " + inside, Modifier.isStatic(inside.getModifiers())
                && !Modifier.isPublic(inside.getModifiers()));
        }
        check.end();
    }

    private static boolean isSeen(Member member) {
        return !Modifier.isPrivate(member.getModifiers()) && !member.isSynthetic();
    }

    private static boolean bearsFaceName(Method method) {
        return METHODS.stream().anyMatch(m -> m.contains(" " + method.getName() + "("));
    }

    private static String signature(Method method) {
        StringBuilder text = new StringBuilder(method.getReturnType() + " " + method.getName() + "(");
        for (Class<?> type : method.getParameterTypes()) {
            text.append(text.charAt(text.length() - 1) == '(' ? "" : ",").append(type);
        }
        return text.append(")").toString();
    }
}
