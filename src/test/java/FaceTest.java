import java.lang.reflect.Constructor;
import java.lang.reflect.Field;
import java.lang.reflect.Method;
import java.lang.reflect.Modifier;
import java.util.Map;
import java.util.TreeMap;

/** The public face is just the one that the document prints. */
public final class FaceTest {
    private static final String INDEX = "IndexOutOfBoundsException";
    private static final String ARGUMENT = "IllegalArgumentException";
    private static final String STATE = "IllegalStateException";

    public static void main(String[] args) {
        theClassIsPublicAndFinal();
        theConstructorIsTheOnlyOne();
        theMethodsAreThose();
        nothingElseCanBeSeen();
        Expect.end();
    }

    private static void theClassIsPublicAndFinal() {
        int kind = SaltOrder.class.getModifiers();
        Expect.same("public and final", Modifier.isPublic(kind) && Modifier.isFinal(kind), true);
        Expect.same("package", SaltOrder.class.getPackageName(), "");
        Expect.same("superclass", SaltOrder.class.getSuperclass(), Object.class);
        Expect.same("interfaces", SaltOrder.class.getInterfaces().length, 0);
    }

    private static void theConstructorIsTheOnlyOne() {
        Constructor<?>[] made = SaltOrder.class.getDeclaredConstructors();
        Expect.same("constructors", made.length, 1);
        Expect.same("public constructor", Modifier.isPublic(made[0].getModifiers()), true);
        Expect.same("parameters of the constructor", made[0].getParameterCount(), 0);
        Expect.same("exceptions of the constructor", made[0].getExceptionTypes().length, 0);
    }

    private static void theMethodsAreThose() {
        Map<String, String> found = new TreeMap<>();
        for (Method method : SaltOrder.class.getDeclaredMethods()) {
            if (Modifier.isPublic(method.getModifiers())) {
                found.put(method.getName(), faceOf(method));
            }
        }
        Expect.same("public methods", found, wantedMethods());
    }

    private static void nothingElseCanBeSeen() {
        for (Method method : SaltOrder.class.getDeclaredMethods()) {
            boolean isPublic = Modifier.isPublic(method.getModifiers());
            boolean isPrivate = Modifier.isPrivate(method.getModifiers());
            Expect.same("public or private: " + method, isPublic || isPrivate, true);
            Expect.same("a public name on " + method, isPrivate && wantedMethods().containsKey(method.getName()), false);
        }
        for (Field field : SaltOrder.class.getDeclaredFields()) {
            int kind = field.getModifiers();
            Expect.same("private: " + field, Modifier.isPrivate(kind), true);
            Expect.same("static and not final: " + field, Modifier.isStatic(kind) && !Modifier.isFinal(kind), false);
        }
    }

    private static String faceOf(Method method) {
        StringBuilder face = new StringBuilder(method.getReturnType().getName());
        for (Class<?> parameter : method.getParameterTypes()) {
            face.append(' ').append(parameter.getName());
        }
        for (Class<?> exception : method.getExceptionTypes()) {
            face.append(' ').append(exception.getSimpleName());
        }
        return Modifier.isStatic(method.getModifiers()) ? "static " + face : face.toString();
    }

    private static Map<String, String> wantedMethods() {
        Map<String, String> wanted = new TreeMap<>();
        wanted.put("join", "int " + STATE);
        wanted.put("spill", "int int int " + INDEX + " " + ARGUMENT + " " + STATE);
        wanted.put("throwSalt", "int int int int " + INDEX + " " + ARGUMENT + " " + STATE);
        wanted.put("doPenance", "int int int " + INDEX + " " + ARGUMENT);
        wanted.put("bringSalt", "int int " + ARGUMENT);
        wanted.put("pass", "int int " + ARGUMENT);
        for (String name : new String[] {"audit", "day", "members", "luckiest", "allArrears", "clearMembers",
                "salt", "ledger", "faults", "daysUntilAudit", "faultsFound"}) {
            wanted.put(name, "int");
        }
        for (String name : new String[] {"luckOf", "arrearsOf", "lumpsOf", "dailyLoss", "memberOf", "grainsOf",
                "excessOf", "arrearsByAudit", "daysUntilClear", "daysUntilUnlucky", "bestPinch", "bestPenance"}) {
            wanted.put(name, "int int " + INDEX);
        }
        wanted.put("isLeft", "boolean int " + INDEX);
        wanted.put("luckIn", "int int int " + INDEX + " " + ARGUMENT);
        wanted.put("meanLuck", "double");
        wanted.put("digest", "long");
        return wanted;
    }
}
