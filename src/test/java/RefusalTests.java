import java.lang.reflect.Method;
import java.lang.reflect.Modifier;
import java.util.Arrays;
import java.util.Comparator;
import java.util.List;

/** Calls with arguments of every kind: none throws, what is refused changes nothing, all calls are the face. */
final class RefusalTests {
    private static final List<String> FACE = List.of("behind int int", "bored int int int", "borer int",
        "ditch", "done", "dry int", "fair", "farm int int int", "farms int", "fault", "first int", "forget",
        "frost int int int int int", "highest int int", "hours", "image int", "judge int", "leak int", "listen int",
        "narrow int int", "restore int", "rests int int", "robbed int", "say int", "seen int int", "set int int",
        "spring int", "takes int int", "takesIf int int", "told int", "wipe", "year int int int");
    private static final List<String> CONSTANTS = List.of("FULL", "GONE", "NO", "NONE", "OUTSIDE", "STATE", "UNKNOWN");

    static void run() {
        Check.test("the face", RefusalTests::face);
        Check.test("no argument makes a call throw, refused calls change nothing", RefusalTests::extremes);
    }

    private static List<Method> calls() {
        return Arrays.stream(SpringFarms.class.getDeclaredMethods())
            .filter(method -> !Modifier.isPrivate(method.getModifiers()))
            .sorted(Comparator.comparing(Method::getName)).toList();
    }

    private static void face() {
        List<String> shown = calls().stream().map(RefusalTests::shown).toList();
        Check.holds("the calls " + shown, shown.equals(FACE));
        for (Method call : calls()) {
            boolean isLong = call.getName().equals("frost");
            Check.holds(call + " answers as told", call.getReturnType() == (isLong ? long.class : int.class));
            Check.holds(call + " is public only", call.getModifiers() == Modifier.PUBLIC);
        }
        Check.holds("public and final", SpringFarms.class.getModifiers() == (Modifier.PUBLIC | Modifier.FINAL));
        List<String> constants = Arrays.stream(SpringFarms.class.getDeclaredFields())
            .filter(field -> !Modifier.isPrivate(field.getModifiers())).map(field -> field.getName()).sorted().toList();
        Check.holds("the constants " + constants, constants.equals(CONSTANTS));
        Check.due("constructors", SpringFarms.class.getDeclaredConstructors().length, 1);
    }

    private static String shown(Method call) {
        StringBuilder shown = new StringBuilder(call.getName());
        for (Class<?> type : call.getParameterTypes()) {
            shown.append(' ').append(type.getName());
        }
        return shown.toString();
    }

    private static void extremes() throws Exception {
        for (Method call : calls()) {
            Object[] values = new Object[call.getParameterCount()];
            callWithAll(call, values, 0);
        }
    }

    private static void callWithAll(Method call, Object[] values, int place) throws Exception {
        if (place == values.length) {
            callOnce(call, values);
            return;
        }
        int[] all = values.length > 3 ? new int[] {Integer.MIN_VALUE, -1, 0, 5, 12, Integer.MAX_VALUE} : Told.EXTREMES;
        for (int value : all) {
            values[place] = value;
            callWithAll(call, values, place + 1);
        }
    }

    private static void callOnce(Method call, Object[] values) throws Exception {
        SpringFarms x = Told.three();
        x.seen(1, 2);
        Told.pad(x, ".A");
        int leaks = x.leak(-1);
        String was = Told.of(x);
        long got = ((Number) call.invoke(x, values)).longValue();
        if (got < 0) {
            String name = call.getName() + Arrays.toString(values);
            Check.holds(name + " changes nothing", Told.of(x).equals(was) && x.leak(-1) == leaks);
            Check.due("judge(2) behind " + name, x.judge(2), 1);
        }
    }

    private RefusalTests() {
    }
}
