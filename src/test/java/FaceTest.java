import java.lang.reflect.Constructor;
import java.lang.reflect.Field;
import java.lang.reflect.Method;
import java.lang.reflect.Modifier;
import java.util.ArrayList;
import java.util.Arrays;
import java.util.List;

/** The public face: each signature with its exceptions, and nothing besides. */
public final class FaceTest {
    private static final String INDEX = "IndexOutOfBoundsException";
    private static final String ARGUMENT = "IllegalArgumentException";
    private static final String STATE = "IllegalStateException";
    private static final String CODE = "UnsupportedOperationException";
    private static final String ELEMENT = "NoSuchElementException";
    private static final String ARITHMETIC = "ArithmeticException";

    private static final List<String> FACE = new ArrayList<>();

    public static void main(String[] args) {
        listFace();
        Expect.promise(1, "the public face");
        Expect.due(Modifier.PUBLIC | Modifier.FINAL, TideVault.class.getModifiers());
        List<String> got = new ArrayList<>();
        for (Method method : TideVault.class.getDeclaredMethods()) {
            if (!Modifier.isPrivate(method.getModifiers())) {
                got.add(tell(method));
            } else {
                Expect.due(false, FACE.stream().anyMatch(line -> line.contains(" " + method.getName() + "[")));
            }
        }
        for (String line : FACE) {
            Expect.due(line, got.contains(line) ? line : "nothing");
        }
        Expect.due(FACE.size(), got.size());
        Constructor<?>[] constructors = TideVault.class.getDeclaredConstructors();
        Expect.due(1, constructors.length);
        Expect.due(Modifier.PUBLIC, constructors[0].getModifiers());
        Expect.due(0, constructors[0].getParameterCount());
        for (Field field : TideVault.class.getDeclaredFields()) {
            Expect.due(true, Modifier.isPrivate(field.getModifiers()));
        }
        Expect.finish();
    }

    private static String tell(Method method) {
        StringBuilder text = new StringBuilder();
        text.append(Modifier.toString(method.getModifiers())).append(' ').append(method.getReturnType());
        text.append(' ').append(method.getName()).append(Arrays.toString(method.getParameterTypes()));
        for (Class<?> exception : method.getExceptionTypes()) {
            text.append(' ').append(exception.getSimpleName());
        }
        return text.toString();
    }

    private static void face(String type, String name, String parameters, String... exceptions) {
        String line = "public " + type + " " + name + "[" + parameters + "]";
        FACE.add(exceptions.length == 0 ? line : line + " " + String.join(" ", exceptions));
    }

    private static void listFace() {
        face("int", "addHolder", "int", ARGUMENT, STATE);
        face("int", "addBox", "int, int, int", INDEX, ARGUMENT, STATE);
        face("int", "setTide", "int, int", ARGUMENT);
        face("char", "turnKey", "int, int, int", INDEX, ARGUMENT, STATE, CODE);
        face("int", "changeCode", "int, int, int", INDEX, ARGUMENT, STATE, CODE);
        face("int", "deposit", "int, int", INDEX, ARGUMENT, STATE);
        face("int", "withdraw", "int", INDEX, STATE, ELEMENT);
        face("int", "close", "int", INDEX, STATE);
        face("int", "pass", "int", ARGUMENT);
        face("int", "time", "");
        face("boolean", "isLowTide", "");
        face("int", "lowMinutes", "int", ARGUMENT);
        face("int", "lowMinutesByCounting", "int", ARGUMENT);
        face("int", "alarm", "");
        face("int", "holders", "");
        face("int", "attempts", "int", INDEX);
        face("int", "minutesLocked", "int", INDEX);
        face("int", "boxesOf", "int", INDEX);
        face("int", "boxes", "");
        face("int", "otherHolder", "int, int", INDEX, ARGUMENT);
        face("char", "status", "int", INDEX);
        face("int", "firstHolder", "int", INDEX, ELEMENT);
        face("int", "remainingDelay", "int", INDEX, ELEMENT);
        face("int", "minutesUntilOpen", "int", INDEX, ELEMENT);
        face("int", "minutesUntilOpenBySimulation", "int", INDEX, ELEMENT);
        face("int", "pearls", "int", INDEX);
        face("int", "pearl", "int, int", INDEX, ELEMENT);
        face("int", "boxByValue", "int", ELEMENT);
        face("long", "totalValue", "");
        face("long", "totalValueByLedger", "");
        face("double", "meanValue", "", ARITHMETIC);
        face("float", "failureRate", "", ARITHMETIC);
        face("int", "events", "");
        face("char", "eventKind", "int", ELEMENT);
        face("int", "eventTime", "int", ELEMENT);
        face("int", "eventNumber", "int", ELEMENT);
        face("boolean", "isConsistent", "");
        face("int", "writeBox", "int", INDEX);
        face("int", "writeEvents", "");
        face("char", "charAt", "int", INDEX);
        face("int", "type", "char", STATE);
        face("int", "run", "", ARGUMENT, CODE);
        face("int", "errorPosition", "", ELEMENT);
        face("int", "failedCommand", "", ELEMENT);
        face("boolean", "wasWrongCode", "", ELEMENT);
        face("int", "undo", "", STATE);
        face("int", "save", "");
        face("int", "restore", "", STATE);
    }
}
