import java.lang.reflect.Constructor;
import java.lang.reflect.Field;
import java.lang.reflect.Member;
import java.lang.reflect.Method;
import java.lang.reflect.Modifier;
import java.util.ArrayList;
import java.util.Arrays;
import java.util.Collections;
import java.util.HashSet;
import java.util.List;
import java.util.Set;

/** The public face, and rule 1 of LANGUAGE.md. */
public final class FaceTest {
    private static final Checks CHECKS = new Checks("FaceTest");
    private static final String[] FACE = {
        "boolean bring(int)", "boolean drive(int)", "boolean gauge(int, int, int)", "boolean putOn(int, int)",
        "boolean release(int)", "boolean takeOff(int, int)", "int gap(int)", "int locks()", "int plan(int)",
        "int pulse(int)", "int sided(int)", "int state(int)", "int tick(int)", "int where(int, int)",
        "void wind(int)",
    };
    private static final String WITHOUT_EXCEPTION = "locks sided state";

    public static void main(String[] args) {
        CHECKS.yes("public and final", RopewayDesk.class.getModifiers() == (Modifier.PUBLIC | Modifier.FINAL));
        Constructor<?>[] constructors = RopewayDesk.class.getDeclaredConstructors();
        CHECKS.due("constructors", constructors.length, 1);
        CHECKS.yes("public constructor", Modifier.isPublic(constructors[0].getModifiers()));
        CHECKS.due("the constructor's parameters", constructors[0].getParameterCount(), 0);

        List<String> face = new ArrayList<>();
        Set<String> names = new HashSet<>();
        for (Method method : RopewayDesk.class.getDeclaredMethods()) {
            if (isSeen(method)) {
                face.add(written(method));
                names.add(method.getName());
                int exceptions = WITHOUT_EXCEPTION.contains(method.getName()) ? 0 : 1;
                CHECKS.due("exceptions of " + method.getName(), method.getExceptionTypes().length, exceptions);
            }
        }
        Collections.sort(face);
        System.out.println(face.equals(Arrays.asList(FACE)) ? "the face is as due" : "the face is " + face);
        CHECKS.yes("the face", face.equals(Arrays.asList(FACE)));
        for (Field field : RopewayDesk.class.getDeclaredFields()) {
            CHECKS.no("seen field " + field.getName(), isSeen(field));
        }
        noneHiddenBears(names, RopewayDesk.class);
        for (Class<?> inside : RopewayDesk.class.getDeclaredClasses()) {
            CHECKS.no("public class " + inside.getName(), Modifier.isPublic(inside.getModifiers()));
            CHECKS.yes("static class " + inside.getName(), Modifier.isStatic(inside.getModifiers()));
            noneHiddenBears(names, inside);
        }
        CHECKS.end();
    }

    private static void noneHiddenBears(Set<String> names, Class<?> type) {
        for (Method method : type.getDeclaredMethods()) {
            if (type != RopewayDesk.class || !isSeen(method)) {
                CHECKS.no("the name of a public one for " + method, names.contains(method.getName()));
            }
        }
    }

    private static boolean isSeen(Member member) {
        return !Modifier.isPrivate(member.getModifiers()) && !member.isSynthetic();
    }

    private static String written(Method method) {
        List<String> parameters = new ArrayList<>();
        for (Class<?> parameter : method.getParameterTypes()) {
            parameters.add(parameter.getName());
        }
        return method.getReturnType().getName() + " " + method.getName() + "(" + String.join(", ", parameters) + ")";
    }
}
