import java.lang.reflect.Constructor;
import java.lang.reflect.Field;
import java.lang.reflect.Method;
import java.lang.reflect.Modifier;
import java.util.Set;
import java.util.TreeSet;

/** The public face, as the document writes it, and nothing else that can be seen from outside. */
public final class FaceTest {
    private static final String[] FACE = {
        "boolean isQuiet(int) IndexOutOfBoundsException",
        "char character(int) IndexOutOfBoundsException",
        "double paidShare() ArithmeticException",
        "float meanArrears() ArithmeticException",
        "int account(int) IllegalArgumentException",
        "int append(char) IllegalStateException",
        "int bestCarrier(int) IndexOutOfBoundsException NoSuchElementException",
        "int bone() UnsupportedOperationException",
        "int bones(int) UnsupportedOperationException",
        "int canCarry(int,int) IndexOutOfBoundsException",
        "int carried()",
        "int carriedAgain()",
        "int carrier(int) UnsupportedOperationException",
        "int carrierOf(int,int) IndexOutOfBoundsException IllegalArgumentException",
        "int carry(int,int) UnsupportedOperationException",
        "int commands() IllegalArgumentException UnsupportedOperationException",
        "int days(int) UnsupportedOperationException",
        "int drive(int) UnsupportedOperationException",
        "int faultPosition()",
        "int house(int,int) UnsupportedOperationException",
        "int houseOf(int,int) IndexOutOfBoundsException IllegalArgumentException",
        "int line(int) IndexOutOfBoundsException",
        "int load(int) UnsupportedOperationException",
        "int mayCarry(int) IndexOutOfBoundsException",
        "int mop(int) UnsupportedOperationException",
        "int order(int,int) UnsupportedOperationException",
        "int pay(int,int) UnsupportedOperationException",
        "int ranked(int) NoSuchElementException",
        "int reach()",
        "int reason(int) IllegalArgumentException NoSuchElementException",
        "int restore() IllegalStateException",
        "int save()",
        "int shoe(int) UnsupportedOperationException",
        "int shoeOf(int) IndexOutOfBoundsException",
        "int tires(int,int) IndexOutOfBoundsException",
        "int undo() IllegalStateException",
    };

    public static void main(String[] args) {
        Set<String> due = new TreeSet<>(Set.of(FACE));
        Set<String> got = new TreeSet<>();
        Set<String> publicNames = new TreeSet<>();
        for (Method method : CoalStairs.class.getDeclaredMethods()) {
            if (!Modifier.isPrivate(method.getModifiers())) {
                got.add(written(method));
                publicNames.add(method.getName());
                Check.due(method.getName() + " is public", Modifier.isPublic(method.getModifiers()) ? 1 : 0, 1);
            }
        }
        Check.due("the face", got.toString(), due.toString());
        Check.due("public final", CoalStairs.class.getModifiers(), Modifier.PUBLIC | Modifier.FINAL);
        Constructor<?>[] constructors = CoalStairs.class.getDeclaredConstructors();
        Check.due("constructors", constructors.length, 1);
        Check.due("parameters of the constructor", constructors[0].getParameterCount(), 0);
        Check.due("the constructor is public", constructors[0].getModifiers(), Modifier.PUBLIC);
        rules(CoalStairs.class, publicNames);
        for (Class<?> inside : CoalStairs.class.getDeclaredClasses()) {
            rules(inside, publicNames);
        }
        Check.end();
    }

    private static String written(Method method) {
        StringBuilder text = new StringBuilder(method.getReturnType().getSimpleName());
        text.append(' ').append(method.getName()).append('(');
        for (Class<?> type : method.getParameterTypes()) {
            text.append(text.charAt(text.length() - 1) == '(' ? "" : ",").append(type.getSimpleName());
        }
        text.append(')');
        for (Class<?> type : method.getExceptionTypes()) {
            text.append(' ').append(type.getSimpleName());
        }
        return text.toString();
    }

    private static void rules(Class<?> type, Set<String> publicNames) {
        for (Field field : type.getDeclaredFields()) {
            int modifiers = field.getModifiers();
            if (Modifier.isStatic(modifiers) && !Modifier.isFinal(modifiers)) {
                Check.fail(type + "." + field.getName() + " is static and not final");
            }
            if (type == CoalStairs.class && !Modifier.isPrivate(modifiers)) {
                Check.fail(field.getName() + " is not private");
            }
        }
        for (Method method : type.getDeclaredMethods()) {
            boolean faceMethod = type == CoalStairs.class && Modifier.isPublic(method.getModifiers());
            if (!faceMethod && publicNames.contains(method.getName())) {
                Check.fail(type + "." + method.getName() + " bears the name of a method of the face");
            }
            if (method.getParameterCount() > 7) {
                Check.fail(type + "." + method.getName() + " takes more than seven parameters");
            }
        }
    }
}
