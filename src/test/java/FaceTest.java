import java.lang.reflect.Constructor;
import java.lang.reflect.Field;
import java.lang.reflect.Method;
import java.lang.reflect.Modifier;
import java.util.ArrayList;
import java.util.Arrays;
import java.util.Collections;
import java.util.List;

/** The public face of the class is the document's, and there is nothing beside it. */
public final class FaceTest {
    private static final String[] FACE = {
        "int bring(int, int) IndexOutOfBoundsException IllegalArgumentException",
        "int setHeat(int, int) IndexOutOfBoundsException IllegalArgumentException",
        "int churn() IllegalStateException",
        "int tub() IllegalStateException",
        "int pack(int, int, int) IndexOutOfBoundsException IllegalArgumentException IllegalStateException",
        "int pour(int, int) IndexOutOfBoundsException IllegalArgumentException IllegalStateException",
        "int scoop(int, int) IndexOutOfBoundsException IllegalStateException",
        "int told(int, int) IndexOutOfBoundsException",
        "int about(int, int) IndexOutOfBoundsException",
        "int count(int) IndexOutOfBoundsException",
        "int next()",
        "int pass(int) IllegalArgumentException",
        "int done(int) IndexOutOfBoundsException",
        "int foresee(int, int) IllegalArgumentException IndexOutOfBoundsException",
        "int lasts()",
        "int salt(int, int) IndexOutOfBoundsException IllegalArgumentException",
        "double share()",
        "long digest()",
    };

    public static void main(String[] args) {
        int modifiers = ColdCreamery.class.getModifiers();
        Due.is("the class is public and final: 1 if so",
            Modifier.isPublic(modifiers) && Modifier.isFinal(modifiers) ? 1 : 0, 1);
        List<String> want = new ArrayList<>(Arrays.asList(FACE));
        Collections.sort(want);
        Due.isText("the public methods", String.join("\n", openMethods()), String.join("\n", want));
        Constructor<?>[] constructors = ColdCreamery.class.getDeclaredConstructors();
        Due.is("constructors", constructors.length, 1);
        Due.isText("the constructor", constructors[0].toString(), "public ColdCreamery()");
        for (Field field : ColdCreamery.class.getDeclaredFields()) {
            Due.is(field + " is private: 1 if so", Modifier.isPrivate(field.getModifiers()) ? 1 : 0, 1);
        }
        Due.end("FaceTest");
    }

    private static List<String> openMethods() {
        List<String> all = new ArrayList<>();
        for (Method method : ColdCreamery.class.getDeclaredMethods()) {
            if (!Modifier.isPrivate(method.getModifiers())) {
                all.add(signature(method));
            }
        }
        Collections.sort(all);
        return all;
    }

    private static String signature(Method method) {
        List<String> parameters = new ArrayList<>();
        for (Class<?> type : method.getParameterTypes()) {
            parameters.add(type.getSimpleName());
        }
        StringBuilder text = new StringBuilder(method.getReturnType().getSimpleName());
        text.append(' ').append(method.getName()).append('(').append(String.join(", ", parameters)).append(')');
        for (Class<?> type : method.getExceptionTypes()) {
            text.append(' ').append(type.getSimpleName());
        }
        return text.toString();
    }
}
