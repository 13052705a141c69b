import java.lang.reflect.Constructor;
import java.lang.reflect.Field;
import java.lang.reflect.Method;
import java.lang.reflect.Modifier;
import java.util.Arrays;
import java.util.Set;
import java.util.TreeSet;

/** The class shows the document's face and nothing more. */
public final class FaceTest {
    private static final String[] METHODS = {
        "int feed(int,int,int,int,int) IllegalStateException",
        "int end(int) IllegalArgumentException IllegalStateException",
        "int read(int) IndexOutOfBoundsException IllegalArgumentException",
        "int fault(int) IndexOutOfBoundsException",
        "int write(int,int) IndexOutOfBoundsException IllegalArgumentException IllegalStateException",
        "int again()",
        "boolean same(int,int) IndexOutOfBoundsException",
        "int plan(int,int) IndexOutOfBoundsException",
        "int ordinate(int,int,int) IndexOutOfBoundsException",
        "int byteAt(int) IndexOutOfBoundsException",
        "int count(int,int) IndexOutOfBoundsException",
    };

    public static void main(String[] args) {
        int shown = ByteShapes.class.getModifiers();
        Check.isTrue("public and final", Modifier.isPublic(shown) && Modifier.isFinal(shown));
        methods();
        constructors();
        fields();
        nested();
        Check.done();
    }

    private static void methods() {
        Set<String> due = new TreeSet<>(Arrays.asList(METHODS));
        Set<String> names = new TreeSet<>();
        for (String method : METHODS) {
            names.add(method.replaceAll("^\\w+ (\\w+).*", "$1"));
        }
        for (Method method : ByteShapes.class.getDeclaredMethods()) {
            if (Modifier.isPrivate(method.getModifiers())) {
                Check.isFalse("private " + method.getName() + " bears a public name", names.contains(method.getName()));
            } else {
                Check.isTrue("method " + told(method), due.remove(told(method)));
            }
        }
        Check.equal("methods that lack: " + due, 0, due.size());
        for (Class<?> inside : ByteShapes.class.getDeclaredClasses()) {
            for (Method method : inside.getDeclaredMethods()) {
                Check.isFalse(inside + " " + method.getName() + " bears a public name",
                    names.contains(method.getName()));
            }
        }
    }

    private static String told(Method method) {
        StringBuilder text = new StringBuilder(method.getReturnType() + " " + method.getName() + "(");
        for (Class<?> type : method.getParameterTypes()) {
            text.append(text.charAt(text.length() - 1) == '(' ? "" : ",").append(type);
        }
        text.append(")");
        for (Class<?> type : method.getExceptionTypes()) {
            text.append(" ").append(type.getSimpleName());
        }
        return text.toString();
    }

    private static void constructors() {
        Constructor<?>[] all = ByteShapes.class.getDeclaredConstructors();
        Check.equal("constructors", 1, all.length);
        Check.isTrue("public", Modifier.isPublic(all[0].getModifiers()));
        Check.isTrue("of three ints", Arrays.equals(all[0].getParameterTypes(),
            new Class<?>[] {int.class, int.class, int.class}));
    }

    private static void fields() {
        for (Field field : ByteShapes.class.getDeclaredFields()) {
            boolean isNone = field.getName().equals("NONE") && field.getType() == int.class
                && Modifier.isPublic(field.getModifiers()) && Modifier.isStatic(field.getModifiers());
            Check.isTrue("field " + field.getName(), isNone || Modifier.isPrivate(field.getModifiers()));
            Check.isTrue("static is final: " + field.getName(),
                !Modifier.isStatic(field.getModifiers()) || Modifier.isFinal(field.getModifiers()));
        }
        Check.equal("NONE", -1, ByteShapes.NONE);
    }

    private static void nested() {
        for (Class<?> inside : ByteShapes.class.getDeclaredClasses()) {
            Check.isTrue("static " + inside, Modifier.isStatic(inside.getModifiers()));
            Check.isFalse("public " + inside, Modifier.isPublic(inside.getModifiers()));
            Check.isFalse("protected " + inside, Modifier.isProtected(inside.getModifiers()));
        }
    }
}
