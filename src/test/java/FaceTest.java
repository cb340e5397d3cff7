import java.lang.reflect.Constructor;
import java.lang.reflect.Field;
import java.lang.reflect.Member;
import java.lang.reflect.Method;
import java.lang.reflect.Modifier;
import java.util.Set;
import java.util.TreeSet;

/** The public face: the constant, the constructor and the methods of the document, and no other member. */
public final class FaceTest {
    private static final String[] METHODS = {
        "int setDistance(int,int,int) IllegalArgumentException",
        "void setQuantities(int,int,int) IllegalArgumentException",
        "boolean bar(int,int,boolean) IllegalArgumentException",
        "int distance(int,int) IllegalArgumentException",
        "int add(int,int,int) IllegalArgumentException IllegalStateException",
        "int setQuantity(int,int) IndexOutOfBoundsException IllegalArgumentException",
        "int put(int,int) IndexOutOfBoundsException IllegalArgumentException",
        "int goods()",
        "int placeOf(int) IndexOutOfBoundsException",
        "boolean isLimited(int) IndexOutOfBoundsException",
        "boolean isExcepted(int) IndexOutOfBoundsException",
        "int need(int,int) IndexOutOfBoundsException IllegalArgumentException",
        "boolean areInBreach(int,int) IndexOutOfBoundsException IllegalArgumentException",
        "boolean isMisplaced(int) IndexOutOfBoundsException",
        "int breaches()",
        "int inBreachWith(int) IndexOutOfBoundsException",
        "boolean isClean()",
        "boolean canPut(int,int) IndexOutOfBoundsException IllegalArgumentException",
        "int placeFor(int) IndexOutOfBoundsException",
        "int fewest()",
        "int leaving()",
    };

    private static String names(Class<?>[] types, String between) {
        StringBuilder text = new StringBuilder();
        for (Class<?> type : types) {
            text.append(text.length() == 0 ? "" : between).append(type.getSimpleName());
        }
        return text.toString();
    }

    private static String faceOf(Method method) {
        String head = method.getReturnType().getSimpleName() + " " + method.getName();
        String thrown = names(method.getExceptionTypes(), " ");
        return head + "(" + names(method.getParameterTypes(), ",") + ")" + (thrown.isEmpty() ? "" : " " + thrown);
    }

    private static boolean isHidden(Member member) {
        return Modifier.isPrivate(member.getModifiers()) || member.isSynthetic();
    }

    private static void methods(Due due) {
        Set<String> found = new TreeSet<>();
        Set<String> open = new TreeSet<>();
        for (Method method : DangerousGoods.class.getDeclaredMethods()) {
            if (!isHidden(method)) {
                found.add(faceOf(method));
                open.add(method.getName());
                due.same(method + " modifiers", method.getModifiers(), Modifier.PUBLIC);
            }
        }
        due.same("the methods", found.toString(), new TreeSet<>(Set.of(METHODS)).toString());
        for (Method method : DangerousGoods.class.getDeclaredMethods()) {
            if (isHidden(method)) {
                due.same(method + " bears a public name", open.contains(method.getName()), false);
            }
        }
    }

    private static void fields(Due due) {
        for (Field field : DangerousGoods.class.getDeclaredFields()) {
            boolean isConstant = field.getName().equals("NONE");
            due.same(field + " is open", !isHidden(field), isConstant);
            if (Modifier.isStatic(field.getModifiers())) {
                due.same(field + " is final", Modifier.isFinal(field.getModifiers()), true);
            }
        }
        due.same("NONE", DangerousGoods.NONE, -1);
    }

    public static void main(String[] args) {
        Due due = new Due("FaceTest");
        due.same("the class", DangerousGoods.class.getModifiers(), Modifier.PUBLIC | Modifier.FINAL);
        Constructor<?>[] constructors = DangerousGoods.class.getDeclaredConstructors();
        due.same("constructors", constructors.length, 1);
        due.same("the constructor", constructors[0].getModifiers(), Modifier.PUBLIC);
        due.same("its parameters", constructors[0].getParameterCount(), 0);
        methods(due);
        fields(due);
        due.end();
    }
}
