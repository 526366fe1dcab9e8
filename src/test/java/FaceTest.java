import java.lang.reflect.Constructor;
import java.lang.reflect.Field;
import java.lang.reflect.Method;
import java.lang.reflect.Modifier;
import java.util.Arrays;
import java.util.Set;
import java.util.TreeSet;

/** The public face is the document's, with nothing more. */
public final class FaceTest {
    private static final String[] FACE = {
        "int child(int) UnsupportedOperationException",
        "int chalk(int int) UnsupportedOperationException",
        "int hop(int int) UnsupportedOperationException",
        "int warrant(int) UnsupportedOperationException",
        "int strike(int) UnsupportedOperationException",
        "int rain(int) UnsupportedOperationException",
        "int term() UnsupportedOperationException",
        "int give(int int int) UnsupportedOperationException",
        "int squareOf(int boolean) IndexOutOfBoundsException",
        "int childOf(int int) IndexOutOfBoundsException IllegalArgumentException",
        "int squares(int) IndexOutOfBoundsException",
        "int warrantAt(int) NoSuchElementException",
        "int fewest(int) IndexOutOfBoundsException",
        "int fewestAgain(int) IndexOutOfBoundsException",
        "int step(int int) IndexOutOfBoundsException NoSuchElementException",
        "int wouldTread(int int) IndexOutOfBoundsException IllegalArgumentException",
        "int longest(int) IndexOutOfBoundsException",
        "int gap()",
        "int wouldEnd(int) IllegalArgumentException",
        "int rainFor(int) IndexOutOfBoundsException NoSuchElementException",
        "int wouldLose(int) IndexOutOfBoundsException",
        "int termsFor(int) IndexOutOfBoundsException NoSuchElementException",
        "int ranked(int int) IllegalArgumentException NoSuchElementException",
        "boolean isEven()",
        "int append(char) IllegalStateException",
        "int commands() IllegalArgumentException UnsupportedOperationException",
        "int faultPosition()",
        "int reason(int) IllegalArgumentException NoSuchElementException",
        "int line()",
        "int warrants()",
        "char character(int) IndexOutOfBoundsException",
        "double meanChalk() ArithmeticException",
        "float ownedShare()",
        "int account(int) IllegalArgumentException",
        "int undo() IllegalStateException",
        "int save()",
        "int restore() IllegalStateException",
    };

    public static void main(String[] args) {
        Check.same("the methods", new TreeSet<>(Arrays.asList(FACE)), methods());
        Check.same("the class", "public final", Modifier.toString(ChalkWarrants.class.getModifiers()));
        Constructor<?>[] constructors = ChalkWarrants.class.getDeclaredConstructors();
        Check.same("the constructors", "[public ChalkWarrants()]", Arrays.toString(constructors));
        for (Field field : ChalkWarrants.class.getDeclaredFields()) {
            Check.same("the field " + field.getName(), true, Modifier.isPrivate(field.getModifiers()));
        }
        for (Class<?> inside : ChalkWarrants.class.getDeclaredClasses()) {
            Check.same("the class " + inside.getName(), true, isHidden(inside));
        }
        Check.end("FaceTest");
    }

    static Set<String> methods() {
        Set<String> found = new TreeSet<>();
        for (Method method : ChalkWarrants.class.getDeclaredMethods()) {
            if (!Modifier.isPrivate(method.getModifiers())) {
                found.add(sign(method));
            }
        }
        return found;
    }

    private static String sign(Method method) {
        StringBuilder text = new StringBuilder(method.getReturnType().getSimpleName());
        text.append(' ').append(method.getName()).append('(').append(names(method.getParameterTypes())).append(')');
        String thrown = names(method.getExceptionTypes());
        return text.append(thrown.isEmpty() ? "" : " " + thrown).toString();
    }

    private static String names(Class<?>[] types) {
        return String.join(" ", Arrays.stream(types).map(Class::getSimpleName).toArray(String[]::new));
    }

    private static boolean isHidden(Class<?> inside) {
        int is = inside.getModifiers();
        return Modifier.isStatic(is) && !Modifier.isPublic(is) && !Modifier.isProtected(is);
    }
}
