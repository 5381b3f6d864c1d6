import java.lang.reflect.Constructor;
import java.lang.reflect.Field;
import java.lang.reflect.Method;
import java.lang.reflect.Modifier;
import java.util.Arrays;
import java.util.TreeSet;

/** The public face, as the document's code block has it, and no other member that is not private. */
public final class FaceTest {
    private static final String[] FACE = {
        "int put(int, int) IllegalArgumentException IllegalStateException",
        "int takeOut(int) NoSuchElementException",
        "int setCustomer(int) IllegalArgumentException",
        "int items()",
        "int sum()",
        "int addPercentage(int, int, int, int) IllegalArgumentException IllegalStateException",
        "int addFreeItem(int, int, int, int) IllegalArgumentException IllegalStateException",
        "int addBundle(int, int, int, int, int, int) IllegalArgumentException IllegalStateException",
        "int addThreshold(int, int, int, int) IllegalArgumentException IllegalStateException",
        "int left(int) IndexOutOfBoundsException",
        "int offers()",
        "int bestDiscount()",
        "int bestByTrying() UnsupportedOperationException",
        "int offerOf(int) NoSuchElementException",
        "int uses(int) IndexOutOfBoundsException",
        "char reason(int) IndexOutOfBoundsException",
        "int netPrice(int) NoSuchElementException",
        "int toPay()",
        "int sell() IllegalStateException",
        "int giveBack(int) NoSuchElementException IllegalStateException",
        "int soldTo(int) NoSuchElementException",
        "int usesInAll()",
        "long turnover()",
        "float discountShare() ArithmeticException",
        "double meanNetPrice() ArithmeticException",
    };

    public static void main(String[] args) {
        Class<?> face = BasketOffers.class;
        Check.due("the class's modifiers", Modifier.toString(face.getModifiers()), "public final");
        Constructor<?>[] constructors = face.getDeclaredConstructors();
        Check.due("the number of constructors", constructors.length, 1);
        Check.due("the constructor", constructors[0].toString(), "public BasketOffers()");
        TreeSet<String> methods = new TreeSet<>();
        TreeSet<String> privates = new TreeSet<>();
        TreeSet<String> publics = new TreeSet<>();
        for (Method method : face.getDeclaredMethods()) {
            if (Modifier.isPrivate(method.getModifiers())) {
                privates.add(method.getName());
            } else {
                methods.add(told(method));
                publics.add(method.getName());
            }
        }
        Check.due("the methods that are not private", methods, new TreeSet<>(Arrays.asList(FACE)));
        privates.retainAll(publics);
        Check.due("the private methods with a public one's name", privates, new TreeSet<String>());
        for (Field field : face.getDeclaredFields()) {
            Check.due("that " + field.getName() + " is private", Modifier.isPrivate(field.getModifiers()), true);
        }
        Check.end();
    }

    private static String told(Method method) {
        StringBuilder text = new StringBuilder();
        text.append(method.getReturnType()).append(' ').append(method.getName()).append('(');
        String between = "";
        for (Class<?> type : method.getParameterTypes()) {
            text.append(between).append(type);
            between = ", ";
        }
        text.append(')');
        for (Class<?> type : method.getExceptionTypes()) {
            text.append(' ').append(type.getSimpleName());
        }
        return text.toString();
    }
}
