import java.lang.reflect.Constructor;
import java.lang.reflect.Field;
import java.lang.reflect.Method;
import java.lang.reflect.Modifier;
import java.util.Arrays;
import java.util.Set;
import java.util.TreeSet;

/** The face of the class: every public method of the document with its exceptions, and no other. */
public final class FaceTest {
    private static final String[] DUE = {
        "int bring(int,boolean,int,int) IndexOutOfBoundsException IllegalArgumentException IllegalStateException",
        "int load(int,int) IndexOutOfBoundsException UnsupportedOperationException IllegalStateException",
        "int takeOut(int) IndexOutOfBoundsException UnsupportedOperationException",
        "float setTemperature(int,int) IndexOutOfBoundsException IllegalArgumentException",
        "int run(int) IndexOutOfBoundsException IllegalStateException",
        "int garmentCount()",
        "int client(int) IndexOutOfBoundsException",
        "boolean isSock(int) IndexOutOfBoundsException",
        "int colour(int) IndexOutOfBoundsException",
        "int stains(int) IndexOutOfBoundsException",
        "int stainCount(int) IndexOutOfBoundsException",
        "char place(int) IndexOutOfBoundsException",
        "int washes(int) IndexOutOfBoundsException",
        "int partner(int) IndexOutOfBoundsException UnsupportedOperationException NoSuchElementException",
        "int pairCount(int) IndexOutOfBoundsException",
        "int pairCountByParity(int) IndexOutOfBoundsException",
        "int inBag(int) IndexOutOfBoundsException",
        "int inMachine(int) IndexOutOfBoundsException",
        "int lost()",
        "float temperature(int) IndexOutOfBoundsException",
        "int temperatureBits(int) IndexOutOfBoundsException",
        "int washableStains(int) IndexOutOfBoundsException",
        "int commonStains(int) IndexOutOfBoundsException",
        "int coloursIn(int) IndexOutOfBoundsException",
        "int damage(int) IndexOutOfBoundsException",
        "int damageByMasks(int) IndexOutOfBoundsException",
        "int bestTemperature(int) IndexOutOfBoundsException IllegalStateException",
        "float price(int,int) IndexOutOfBoundsException",
        "float paid(int) IndexOutOfBoundsException",
        "int paidBits(int) IndexOutOfBoundsException",
        "long packed(int) IndexOutOfBoundsException",
        "int runCount()",
        "int dirtiest(int) NoSuchElementException",
        "int spender(int) NoSuchElementException",
        "double meanStains() ArithmeticException",
        "float lostShare() ArithmeticException",
        "boolean isConsistent()",
        "int feed(char) IllegalStateException",
        "int runCommands() IllegalArgumentException UnsupportedOperationException",
        "int errorPosition() NoSuchElementException",
        "int failedCommand() NoSuchElementException",
        "int writeBag(int) IndexOutOfBoundsException",
        "char outputChar(int) IndexOutOfBoundsException",
        "int undoCount()",
        "int undo() IllegalStateException",
        "int save()",
        "int restore() IllegalStateException",
    };

    private static String face(Method method) {
        StringBuilder text = new StringBuilder(method.getReturnType().getSimpleName());
        text.append(' ').append(method.getName()).append('(');
        String comma = "";
        for (Class<?> type : method.getParameterTypes()) {
            text.append(comma).append(type.getSimpleName());
            comma = ",";
        }
        text.append(')');
        for (Class<?> type : method.getExceptionTypes()) {
            text.append(' ').append(type.getSimpleName());
        }
        return text.toString();
    }

    public static void main(String[] args) {
        Set<String> found = new TreeSet<>();
        Set<String> publicNames = new TreeSet<>();
        Set<String> privateNames = new TreeSet<>();
        for (Method method : LaundryService.class.getDeclaredMethods()) {
            if (Modifier.isPrivate(method.getModifiers())) {
                privateNames.add(method.getName());
            } else {
                found.add(face(method));
                publicNames.add(method.getName());
                Check.same(method + " is public", Modifier.isPublic(method.getModifiers()), true);
            }
        }
        Check.same("the methods", found, new TreeSet<>(Arrays.asList(DUE)));
        privateNames.retainAll(publicNames);
        Check.same("private methods with a public name", privateNames, new TreeSet<String>());

        Check.same("final", Modifier.isFinal(LaundryService.class.getModifiers()), true);
        Constructor<?>[] constructors = LaundryService.class.getDeclaredConstructors();
        Check.same("constructors", constructors.length, 1);
        Check.same("public constructor", Modifier.isPublic(constructors[0].getModifiers()), true);
        Check.same("its parameters", constructors[0].getParameterCount(), 0);
        for (Field field : LaundryService.class.getDeclaredFields()) {
            Check.same(field + " is private", Modifier.isPrivate(field.getModifiers()), true);
        }
        for (Class<?> inside : LaundryService.class.getDeclaredClasses()) {
            Check.same(inside + " is private", Modifier.isPrivate(inside.getModifiers()), true);
            Check.same(inside + " is static", Modifier.isStatic(inside.getModifiers()), true);
        }
        Check.end();
    }
}
