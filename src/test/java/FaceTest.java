import java.lang.reflect.Constructor;
import java.lang.reflect.Field;
import java.lang.reflect.Member;
import java.lang.reflect.Method;
import java.lang.reflect.Modifier;
import java.util.Arrays;
import java.util.TreeSet;

/** The class has the document's face, and no other member that is not private. */
public final class FaceTest {
    private static final String[] FACE = {
        "int begin(int) IllegalArgumentException",
        "int change(int) IllegalArgumentException IllegalStateException",
        "int mirror() IllegalStateException",
        "int unchange() IllegalStateException",
        "int at(int int) IllegalArgumentException",
        "boolean isChange(int)",
        "int told(int) IllegalArgumentException",
        "int changeAt(int) IndexOutOfBoundsException",
        "int next(int int) IllegalArgumentException",
        "int lead(int int) IllegalArgumentException",
        "int crossed(int) IllegalArgumentException",
        "int call(int) IllegalArgumentException IllegalStateException",
        "int uncall() IllegalStateException",
        "int callAt(int) IndexOutOfBoundsException",
        "int touch(int) IllegalArgumentException",
        "int row(int) IndexOutOfBoundsException",
        "int where(int) IllegalArgumentException",
        "int place(int int) IndexOutOfBoundsException",
        "int longest(int) IndexOutOfBoundsException",
        "int music(int) IllegalArgumentException",
        "int common(int int) IndexOutOfBoundsException",
        "double meanPlace()",
        "int good(int) IllegalArgumentException",
        "int best(int) IllegalArgumentException",
        "int bestCall(int int) IllegalArgumentException IndexOutOfBoundsException",
        "int endWith(int int) IndexOutOfBoundsException IllegalArgumentException",
        "int clashes(int) IllegalArgumentException",
        "long digest()",
    };

    public static void main(String[] args) {
        Class<?> face = BellfounderTower.class;
        Check.is("modifiers", face.getModifiers(), Modifier.PUBLIC | Modifier.FINAL);
        Check.is("package", face.getPackageName(), "");
        TreeSet<String> methods = new TreeSet<>();
        TreeSet<String> hidden = new TreeSet<>();
        for (Method method : face.getDeclaredMethods()) {
            if (Modifier.isPrivate(method.getModifiers())) {
                hidden.add(method.getName());
            } else {
                Check.is(method.getName() + " public", method.getModifiers(), Modifier.PUBLIC);
                methods.add(told(method));
            }
        }
        Check.is("methods", methods.toString(), new TreeSet<>(Arrays.asList(FACE)).toString());
        for (Method method : face.getMethods()) {
            Check.is("no private " + method.getName(), hidden.contains(method.getName()), false);
        }
        for (Field field : face.getDeclaredFields()) {
            Check.is(field.getName() + " private", isPrivate(field), true);
        }
        Constructor<?>[] constructors = face.getDeclaredConstructors();
        Check.is("constructors", constructors.length, 1);
        Check.is("constructor public", constructors[0].getModifiers(), Modifier.PUBLIC);
        Check.is("constructor's parameters", constructors[0].getParameterCount(), 0);
        for (Class<?> inside : face.getDeclaredClasses()) {
            boolean isOpen = (inside.getModifiers() & (Modifier.PUBLIC | Modifier.PROTECTED)) != 0;
            Check.is(inside.getName() + " open", isOpen, false);
            Check.is(inside.getName() + " static", Modifier.isStatic(inside.getModifiers()), true);
        }
        Check.end("FaceTest");
    }

    private static boolean isPrivate(Member member) {
        return Modifier.isPrivate(member.getModifiers());
    }

    private static String told(Method method) {
        StringBuilder text = new StringBuilder();
        text.append(method.getReturnType().getName()).append(' ').append(method.getName()).append('(');
        String between = "";
        for (Class<?> type : method.getParameterTypes()) {
            text.append(between).append(type.getName());
            between = " ";
        }
        text.append(')');
        for (Class<?> type : method.getExceptionTypes()) {
            text.append(' ').append(type.getSimpleName());
        }
        return text.toString();
    }
}
