import java.lang.reflect.Method;
import java.lang.reflect.Modifier;
import java.util.ArrayList;
import java.util.Arrays;
import java.util.Comparator;
import java.util.HashMap;
import java.util.List;
import java.util.Map;
import java.util.Random;
import java.util.Set;

/** Long runs of drawn calls, each answer compared with the oracle's; the draws are the same each time. */
final class RandomTests {
    private static final int RUNS = 2000;
    private static final int CALLS = 512;
    private static final int LEAST_GOOD = 300;
    private static final int LEAST_KINDS = 4;
    /** Calls that throw much away are drawn this seldom, so that runs keep what they built up. */
    private static final Map<String, Integer> SELDOM = Map.of("farms", 30, "wipe", 4, "restore", 6, "forget", 3,
        "set", 3, "image", 3, "say", 3);
    private static final Set<String> FARM_FIRST = Set.of("farm", "behind", "first", "takes", "takesIf", "robbed",
        "highest", "seen", "frost");
    private static final Set<String> FARM_SECOND = Set.of("takesIf", "narrow");

    private final Random random;
    private final SpringFarms real = new SpringFarms();
    private final Oracle oracle = new Oracle();
    private final Map<String, Method> calls = new HashMap<>();
    private final List<String> names;
    private final Map<String, Map<Long, Integer>> answers;
    private final StringBuilder told = new StringBuilder();
    private final boolean wild;
    private int left = CALLS;
    private boolean good = true;

    private RandomTests(int seed, Map<String, Map<Long, Integer>> answers) {
        random = new Random(seed);
        wild = seed % 10 == 0;
        this.answers = answers;
        for (Method method : SpringFarms.class.getDeclaredMethods()) {
            if (Modifier.isPublic(method.getModifiers())) {
                calls.put(method.getName(), method);
            }
        }
        names = calls.keySet().stream().sorted(Comparator.naturalOrder()).toList();
    }

    static void run() {
        Map<String, Map<Long, Integer>> answers = new HashMap<>();
        Check.test("drawn runs answer as the oracle does", () -> {
            for (int seed = 1; seed <= RUNS; seed++) {
                new RandomTests(seed, answers).compareRun();
            }
        });
        Check.test("the draws reach every call's answers", () -> {
            for (String name : new RandomTests(1, answers).names) {
                reaches(name, answers.getOrDefault(name, Map.of()));
            }
        });
    }

    /** A call that the draws hardly reach behind its refusals would be compared in vain. */
    private static void reaches(String name, Map<Long, Integer> answers) {
        int kinds = 0;
        int count = 0;
        for (Map.Entry<Long, Integer> answer : answers.entrySet()) {
            kinds += answer.getKey() >= 0 ? 1 : 0;
            count += answer.getKey() >= 0 ? answer.getValue() : 0;
        }
        boolean isOne = name.equals("image") || name.equals("restore");
        Check.holds(name + " has " + count + " good answers", count >= LEAST_GOOD);
        Check.holds(name + " has " + kinds + " kinds of them", kinds >= (isOne ? 1 : LEAST_KINDS));
    }

    private void compareRun() throws Exception {
        while (left > 0 && good) {
            switch (random.nextInt(30)) {
                case 0: buildScene(); break;
                case 1: writeDay(); break;
                case 2: hear(); break;
                default: callAny();
            }
        }
    }

    private void call(String name, Object... values) throws Exception {
        if (left == 0 || !good) {
            return;
        }
        left--;
        Method method = calls.get(name);
        Method due = Oracle.class.getDeclaredMethod(name, method.getParameterTypes());
        long want = ((Number) due.invoke(oracle, values)).longValue();
        long got = ((Number) method.invoke(real, values)).longValue();
        told.append(name).append(Arrays.toString(values)).append(' ');
        answers.computeIfAbsent(name, key -> new HashMap<>()).merge(want, 1, Integer::sum);
        if (got != want) {
            good = false;
            Check.due("... " + told.substring(Math.max(0, told.length() - 500)), got, want);
        }
    }

    private void callAny() throws Exception {
        String name = names.get(random.nextInt(names.size()));
        if (random.nextInt(SELDOM.getOrDefault(name, 1)) != 0) {
            return;
        }
        Object[] values = new Object[calls.get(name).getParameterCount()];
        for (int p = 0; p < values.length; p++) {
            values[p] = value(name, p);
        }
        call(name, values);
    }

    /** Farms of which the water reaches many. */
    private void buildScene() throws Exception {
        call("farms", 1 + random.nextInt(9));
        int span = 1 + random.nextInt(20);
        call("set", 0, Math.min(99, span + random.nextInt(30)));
        for (int f = 0; f < real.told(1); f++) {
            call("farm", f, 0, random.nextInt(span));
            call("farm", f, 1, random.nextInt(10));
            call("farm", f, 2, random.nextInt(12));
            call("farm", f, 3 + random.nextInt(4), random.nextInt(2));
        }
    }

    private void writeDay() throws Exception {
        call("wipe");
        int parts = random.nextInt(12);
        for (int k = 0; k < parts; k++) {
            int what = random.nextInt(8);
            if (what > 3) {
                call("say", 'A' + random.nextInt(real.told(1) + random.nextInt(20) / 19));
            }
            if (what != 4) {
                call("say", (int) ".n*+?<>w".charAt(what));
            }
        }
    }

    /** Sights as they would be with one leak more, so that some twos fit and others do not. */
    private void hear() throws Exception {
        call("forget");
        int n = real.told(1);
        int leaking = random.nextInt(n);
        int was = real.told(10 * (1 + leaking) + 5);
        int height = real.told(10 * (1 + leaking));
        boolean bored = random.nextBoolean();
        real.farm(leaking, bored ? 0 : 5, bored ? height / 2 : Math.min(9, was + 1 + random.nextInt(4)));
        int[] took = new int[n];
        for (int f = 0; f < n; f++) {
            took[f] = real.takes(f, 0);
        }
        real.farm(leaking, 0, height);
        real.farm(leaking, 5, was);
        for (int k = random.nextInt(4); k > 0; k--) {
            int f = random.nextInt(n);
            call("seen", f, took[f]);
        }
        call("leak", -1);
        call("leak", random.nextInt(4));
        call("borer", -1);
        call("borer", random.nextInt(4));
        call("listen", 0);
        call("listen", 1);
    }

    private int value(String name, int place) {
        if (random.nextInt(wild ? 3 : 40) == 0) {
            return Told.EXTREMES[random.nextInt(Told.EXTREMES.length)];
        }
        if (place == 0 && FARM_FIRST.contains(name) || place == 1 && FARM_SECOND.contains(name)) {
            int n = real.told(1);
            return random.nextInt(40) == 0 ? n : random.nextInt(n);
        }
        switch (name + place) {
            case "farms0": return 1 + random.nextInt(9);
            case "farm1": return random.nextInt(7);
            case "farm2": return random.nextInt(random.nextInt(2) == 0 ? 2 : random.nextInt(4) != 0 ? 10 : 1000);
            case "set1": return random.nextInt(random.nextInt(3) == 0 ? 100 : 31);
            case "say0": return ".n*+ABCDEFGHI<>wABC<>w..".charAt(random.nextInt(24));
            case "spring0":
            case "highest1":
            case "narrow0": return 1 + random.nextInt(24);
            case "bored0": return random.nextInt(random.nextInt(3) == 0 ? 51 : 12);
            case "bored1": return random.nextInt(10);
            case "dry0": return random.nextInt(random.nextInt(2) == 0 ? 100 : 10);
            case "seen1": return random.nextInt(10);
            case "leak0":
            case "borer0": return random.nextInt(3) == 0 ? -1 : random.nextInt(60);
            case "rests0": return (1 << random.nextInt(9) | 1 << random.nextInt(9) | 1 << random.nextInt(9))
                & (1 << real.told(1)) - 1;
            case "rests1": return random.nextInt(4) - 2;
            case "frost1": return random.nextInt(30);
            case "frost2": return random.nextInt(11);
            case "frost3": return random.nextInt(13);
            case "year0": return random.nextInt(10000);
            case "year1": return 1 + random.nextInt(99);
            case "told0": return random.nextInt(107);
            default: return random.nextInt(3);
        }
    }
}
