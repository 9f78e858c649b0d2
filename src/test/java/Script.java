import java.lang.reflect.Method;
import java.lang.reflect.Modifier;
import java.util.ArrayList;
import java.util.HashMap;
import java.util.List;
import java.util.Map;
import java.util.Set;
import java.util.regex.Matcher;
import java.util.regex.Pattern;

/**
 * A run of calls on a new object, written as a text: farms(3) = 9, with what is due behind the equals sign.
 * A call with nothing due must not be refused. A number may be one of several, 0|9, each of them called in turn.
 * pad "A<." wipes the pad and says these signs. Behind each call that is refused, or that only asks, all must be as
 * it was: two objects made alike, one with the call and one without, are asked for all that they tell.
 */
final class Script {
    private static final Pattern STEP =
        Pattern.compile("\\s*(?:pad\\s+\"([^\"]*)\"|(\\w+)\\(([^)]*)\\)(?:\\s*=\\s*([\\w+-]+))?)\\s*");
    private static final Map<String, Long> NAMES = Map.of("UNKNOWN", -1L, "OUTSIDE", -2L, "STATE", -3L, "FULL", -4L,
        "NO", -5L, "NONE", -6L, "GONE", -1000000000000000000L, "min", (long) Integer.MIN_VALUE,
        "max", (long) Integer.MAX_VALUE);
    private static final Set<String> CHANGING =
        Set.of("farms", "farm", "set", "say", "wipe", "done", "seen", "forget", "image", "restore");
    /** Of the 512 calls that an object is used for, asking for all that it tells takes some 300. */
    private static final int MOST_CALLS = 512, MOST_CHANGES = 200;
    private static final Map<String, Method> METHODS = methods();

    private final SpringFarms x = new SpringFarms();
    private final List<String> changes = new ArrayList<>();
    private int calls = 0;

    /** Runs a text as a test of its own. */
    static void edge(String title, String text) {
        Check.test(title, () -> new Script().run(text));
    }

    private static Map<String, Method> methods() {
        Map<String, Method> methods = new HashMap<>();
        for (Method method : SpringFarms.class.getDeclaredMethods()) {
            if (Modifier.isPublic(method.getModifiers())) {
                methods.put(method.getName(), method);
            }
        }
        return methods;
    }

    private void run(String text) throws Exception {
        Matcher step = STEP.matcher(text);
        int at = 0;
        while (at < text.length() && step.find(at) && step.start() == at) {
            if (step.group(1) != null) {
                pad(step.group(1));
            } else {
                for (String values : alternatives(step.group(3))) {
                    one(step.group(2), values, step.group(4));
                }
            }
            at = step.end();
        }
        Check.holds("the text is read to its end, " + at, at == text.length());
        Check.holds(calls + " calls are few enough", calls <= MOST_CALLS && changes.size() <= MOST_CHANGES);
    }

    private void pad(String signs) throws Exception {
        one("wipe", "", null);
        for (char sign : signs.toCharArray()) {
            one("say", "" + (int) sign, null);
        }
    }

    private static List<String> alternatives(String values) {
        List<String> rows = List.of("");
        for (String value : values.isBlank() ? new String[0] : values.split(",")) {
            List<String> longer = new ArrayList<>();
            for (String row : rows) {
                for (String each : value.split("\\|")) {
                    longer.add(row.isEmpty() ? each.trim() : row + ", " + each.trim());
                }
            }
            rows = longer;
        }
        return rows;
    }

    private void one(String name, String values, String due) throws Exception {
        String call = name + "(" + values + ")";
        calls++;
        long got = call(x, call);
        if (due == null) {
            Check.holds(call + " is not refused, " + got, got >= 0);
        } else {
            Check.due(call, got, number(due));
        }
        if (CHANGING.contains(name) && got >= 0) {
            changes.add(call);
        } else {
            Check.holds(call + " changes nothing", told(null).equals(told(call)));
        }
    }

    static long number(String text) {
        long sum = 0;
        for (String term : text.trim().split("\\+")) {
            sum += NAMES.containsKey(term) ? NAMES.get(term) : Long.parseLong(term);
        }
        return sum;
    }

    static long call(SpringFarms on, String call) throws Exception {
        int open = call.indexOf('(');
        String inside = call.substring(open + 1, call.length() - 1);
        String[] texts = inside.isEmpty() ? new String[0] : inside.split(",");
        Object[] values = new Object[texts.length];
        for (int k = 0; k < texts.length; k++) {
            values[k] = (int) number(texts[k]);
        }
        return ((Number) METHODS.get(call.substring(0, open)).invoke(on, values)).longValue();
    }

    /** All that an object tells that was changed as this one was, and then called once more (or not, by null). */
    private String told(String last) throws Exception {
        SpringFarms other = new SpringFarms();
        for (String change : changes) {
            call(other, change);
        }
        if (last != null) {
            call(other, last);
        }
        StringBuilder text = new StringBuilder();
        tellDay(other, text);
        tellSights(other, text);
        other.farms(9);
        text.append(other.fault()).append(' ').append(other.wipe());
        for (int n = 0; n <= 1; n++) {
            text.append(" image ").append(n).append(' ').append(other.restore(n)).append(' ');
            tellSights(other, text);
        }
        return text.toString();
    }

    private static void tellDay(SpringFarms on, StringBuilder text) {
        text.append(on.fault()).append(' ').append(on.ditch()).append(' ');
        for (int what = 0; what <= 2; what++) {
            text.append(on.judge(what)).append(' ');
        }
        for (int f = 0; f < on.told(1); f++) {
            text.append(on.first(f)).append(' ');
            for (int what = 0; what <= 3; what++) {
                text.append(on.behind(f, what)).append(' ');
            }
        }
    }

    private static void tellSights(SpringFarms on, StringBuilder text) {
        text.append(Told.of(on));
        for (int i = -1; i < 5; i++) {
            text.append(on.leak(i)).append(' ').append(on.borer(i)).append(' ');
        }
    }
}
