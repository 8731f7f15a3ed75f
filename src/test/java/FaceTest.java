import java.lang.reflect.Constructor;
import java.lang.reflect.Field;
import java.lang.reflect.Member;
import java.lang.reflect.Method;
import java.lang.reflect.Modifier;
import java.util.Random;
import java.util.Set;
import java.util.TreeSet;

/** The class shows what the document shows and no more, and no call of it throws. */
public final class FaceTest {
    private static final Set<String> FACE = new TreeSet<>(Set.of(
        "SignForms()",
        "int NONE", "int STATE", "int ROOM",
        "boolean open(int,int,int)",
        "int put(int,long,int)",
        "int pour(int,int,int)",
        "int end(int)",
        "int about(int,int)",
        "int sign(int,int)",
        "int placed(int,int,int)",
        "int at(int,int)",
        "int write(int,int,boolean)",
        "int size(int,int,int,int)",
        "int out(int)",
        "int check(int)",
        "int order(int,int,int)",
        "int among(int,int,int)"));
    private static final int[] EDGES = {
        Integer.MIN_VALUE, Integer.MIN_VALUE + 1, -2, -1, 0, 1, 2, 3, 4, 5, 6, 7, 8, 9,
        1999, 2000, 2001, 5999, 6000, 6001, Integer.MAX_VALUE - 1, Integer.MAX_VALUE,
    };
    private static final Due due = new Due();

    public static void main(String[] args) throws ReflectiveOperationException {
        face();
        noCallThrows();
        due.close("FaceTest");
    }

    private static void face() {
        Set<String> shown = new TreeSet<>();
        for (Constructor<?> made : SignForms.class.getDeclaredConstructors()) {
            if (isShown(made)) {
                shown.add("SignForms" + arguments(made.getParameterTypes()));
            }
        }
        for (Method method : SignForms.class.getDeclaredMethods()) {
            if (isShown(method)) {
                shown.add(method.getReturnType() + " " + method.getName() + arguments(method.getParameterTypes()));
            }
        }
        for (Field field : SignForms.class.getDeclaredFields()) {
            if (isShown(field)) {
                shown.add(field.getType() + " " + field.getName());
            }
        }
        due.is("the face is " + shown + "; that it is the document's", shown.equals(FACE), true);
        due.is("the class is final", Modifier.isFinal(SignForms.class.getModifiers()), true);
    }

    private static boolean isShown(Member member) {
        return !Modifier.isPrivate(member.getModifiers()) && !member.isSynthetic();
    }

    private static String arguments(Class<?>[] types) {
        StringBuilder text = new StringBuilder("(");
        for (Class<?> type : types) {
            text.append(text.length() > 1 ? "," : "").append(type);
        }
        return text.append(")").toString();
    }

    private static void noCallThrows() throws ReflectiveOperationException {
        Random random = new Random(7);
        Method[] methods = SignForms.class.getMethods();
        for (int run = 0; run < 400; run++) {
            SignForms x = new SignForms();
            for (int call = 0; call < 512; call++) {
                Method method = methods[random.nextInt(methods.length)];
                if (method.getDeclaringClass() == SignForms.class) {
                    invoke(x, method, random);
                }
            }
        }
    }

    private static void invoke(SignForms x, Method method, Random random) throws ReflectiveOperationException {
        Object[] values = new Object[method.getParameterCount()];
        for (int k = 0; k < values.length; k++) {
            Class<?> type = method.getParameterTypes()[k];
            if (type == boolean.class) {
                values[k] = random.nextBoolean();
            } else if (type == long.class) {
                values[k] = random.nextLong();
            } else {
                values[k] = random.nextInt(3) == 0 ? EDGES[random.nextInt(EDGES.length)] : random.nextInt(4);
            }
        }
        boolean threw = false;
        try {
            method.invoke(x, values);
        } catch (java.lang.reflect.InvocationTargetException thrown) {
            threw = true;
            System.out.println(thrown.getCause());
        }
        due.is(method.getName() + java.util.Arrays.toString(values) + " throws", threw, false);
    }
}
