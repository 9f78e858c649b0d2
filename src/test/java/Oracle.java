import java.math.BigInteger;
import java.util.ArrayList;
import java.util.Arrays;
import java.util.List;
import java.util.Map;
import java.util.TreeMap;
import java.util.function.IntPredicate;
import java.util.stream.IntStream;

/** The document once more, written plainly and with no thought of room: what each call is due to answer. */
final class Oracle {
    private static final int UNKNOWN = -1, OUTSIDE = -2, STATE = -3, FULL = -4, NO = -5, NONE = -6;
    private static final List<Integer> MOST = List.of(50, 9, 99, 1, 1, 9, 999);

    /** A farm, never changed: a change makes another. */
    record Farm(int height, int width, int wants, int north, int plugged, int leaks, int pails) {
        static final Farm FIRST = new Farm(0, 1, 5, 0, 0, 0, 0);

        Farm with(int what, int v) {
            int[] all = all();
            all[what] = v;
            return new Farm(all[0], all[1], all[2], all[3], all[4], all[5], all[6]);
        }

        int[] all() {
            return new int[] {height, width, wants, north, plugged, leaks, pails};
        }
    }

    record World(List<Farm> farms, int spring, int rain, int cows, int ditch, List<int[]> sights) {
        World with(List<Farm> others) {
            return new World(others, spring, rain, cows, ditch, sights);
        }

        World with(int farm, int what, int v) {
            List<Farm> others = new ArrayList<>(farms);
            others.set(farm, farms.get(farm).with(what, v));
            return with(others);
        }

        World withSpring(int v) {
            return new World(farms, v, rain, cows, ditch, sights);
        }

        World withDitch(int v) {
            return new World(farms, spring, rain, cows, v, sights);
        }

        /** An hour: {levels, takes, {left}}. */
        int[][] hour(char kind) {
            int water = spring;
            if (kind == '+') {
                water = spring + rain;
            } else if (kind == 'n') {
                water = spring > cows ? spring - cows : 0;
            }
            int[] levels = new int[farms.size()];
            int[] takes = new int[farms.size()];
            for (int f = 0; f < farms.size(); f++) {
                Farm farm = farms.get(f);
                water = water > farm.leaks ? water - farm.leaks : 0;
                levels[f] = water;
                boolean shut = farm.plugged == 1 || farm.north == 1 && kind == '*';
                while (!shut && takes[f] < farm.width && takes[f] < levels[f] - farm.height) {
                    takes[f]++;
                    water--;
                }
            }
            return new int[][] {levels, takes, {water}};
        }

        int[] takes() {
            return hour('.')[1];
        }

        boolean allHave(int m) {
            int[] takes = takes();
            return IntStream.range(0, farms.size())
                .allMatch(f -> farms.get(f).pails + m * takes[f] >= farms.get(f).wants);
        }

        World after(char kind) {
            int[][] hour = hour(kind);
            World world = this;
            for (int f = 0; f < farms.size(); f++) {
                world = world.with(f, 6, farms.get(f).pails + hour[1][f]);
            }
            return world.withDitch(ditch + hour[2][0]);
        }

        boolean sightsAreSo() {
            int[] takes = takes();
            return sights.stream().allMatch(sight -> takes[sight[0]] == sight[1]);
        }
    }

    private World world = new World(many(9), 20, 10, 5, 0, List.of());
    private String pad = "";
    private final World[] images = new World[2];

    private static List<Farm> many(int n) {
        List<Farm> farms = new ArrayList<>();
        for (int f = 0; f < n; f++) {
            farms.add(Farm.FIRST);
        }
        return farms;
    }

    private boolean unknown(int farm) {
        return farm < 0 || farm >= n();
    }

    private static boolean out(int v, int least, int most) {
        return v < least || v > most;
    }

    private int n() {
        return world.farms.size();
    }

    int farms(int n) {
        if (out(n, 1, 9)) {
            return OUTSIDE;
        }
        int was = n();
        world = new World(many(n), world.spring, world.rain, world.cows, 0, List.of());
        return was;
    }

    int farm(int farm, int what, int v) {
        if (unknown(farm)) {
            return UNKNOWN;
        }
        if (out(what, 0, 6) || out(v, 0, MOST.get(what))) {
            return OUTSIDE;
        }
        int was = world.farms.get(farm).all()[what];
        world = world.with(farm, what, v);
        return was;
    }

    int set(int which, int v) {
        if (out(which, 0, 2) || out(v, 0, which == 0 ? 99 : 50)) {
            return OUTSIDE;
        }
        int was = told(2 + which);
        int[] rates = {world.spring, world.rain, world.cows};
        rates[which] = v;
        world = new World(world.farms, rates[0], rates[1], rates[2], world.ditch, world.sights);
        return was;
    }

    int say(int sign) {
        if (out(sign, 33, 126)) {
            return OUTSIDE;
        }
        if (pad.length() == 60) {
            return FULL;
        }
        pad += (char) sign;
        return pad.length();
    }

    int wipe() {
        int were = pad.length();
        pad = "";
        return were;
    }

    /** The parts as texts of one or two signs, up to the fault; the fault's place is what they leave. */
    private List<String> parts() {
        List<String> parts = new ArrayList<>();
        String left = pad;
        String capitals = "ABCDEFGHI".substring(0, n());
        while (!left.isEmpty()) {
            String part;
            if (left.matches("(?s)[" + capitals + "][<>w].*")) {
                part = left.substring(0, 2);
            } else if (left.matches("(?s)[" + capitals + ".n*+].*")) {
                part = left.substring(0, 1);
            } else {
                return parts;
            }
            parts.add(part);
            left = left.substring(part.length());
        }
        return parts;
    }

    int fault() {
        int read = String.join("", parts()).length();
        return read == pad.length() ? NONE : read;
    }

    /** The worlds behind each part (the first: now), up to the part that can not be; {why} if there is one. */
    private List<World> lived(int[] why) {
        List<World> worlds = new ArrayList<>(List.of(world));
        for (String part : parts()) {
            World last = worlds.get(worlds.size() - 1);
            if (".n*+".contains(part)) {
                worlds.add(last.after(part.charAt(0)));
                continue;
            }
            int f = part.charAt(0) - 'A';
            Farm farm = last.farms.get(f);
            int what = part.length() == 1 ? 4 : part.charAt(1) == 'w' ? 1 : 0;
            int v = part.length() == 1 ? 1 - farm.plugged : part.charAt(1) == 'w' ? farm.width + 1
                : part.charAt(1) == '<' ? farm.height - 1 : farm.height + 1;
            if (v < 0 || v > MOST.get(what)) {
                why[0] = what + 1;
                return worlds;
            }
            worlds.add(last.with(f, what, v));
        }
        return worlds;
    }

    private int refusal() {
        int[] why = {0};
        if (fault() != NONE) {
            return NO;
        }
        lived(why);
        return why[0] != 0 ? STATE : 0;
    }

    private World end() {
        List<World> worlds = lived(new int[1]);
        return worlds.get(worlds.size() - 1);
    }

    private boolean isHour(String part) {
        return ".n*+".contains(part);
    }

    int judge(int what) {
        if (out(what, 0, 2)) {
            return OUTSIDE;
        }
        int refusal = refusal();
        if (refusal == NO) {
            return NO;
        }
        int[] why = {0};
        int lived = lived(why).size() - 1;
        if (what == 2) {
            return refusal == STATE ? STATE : (int) parts().stream().filter(this::isHour).count();
        }
        return why[0] == 0 ? NONE : what == 0 ? lived : why[0];
    }

    int behind(int farm, int what) {
        if (unknown(farm)) {
            return UNKNOWN;
        }
        if (out(what, 0, 3)) {
            return OUTSIDE;
        }
        if (refusal() != 0) {
            return refusal();
        }
        Farm then = end().farms.get(farm);
        return List.of(then.pails, then.height, then.width, then.plugged).get(what);
    }

    int ditch() {
        return refusal() != 0 ? refusal() : end().ditch;
    }

    int done() {
        if (refusal() != 0) {
            return refusal();
        }
        int parts = parts().size();
        world = end();
        pad = "";
        return parts;
    }

    int first(int farm) {
        if (unknown(farm)) {
            return UNKNOWN;
        }
        if (refusal() != 0) {
            return refusal();
        }
        List<World> worlds = lived(new int[1]);
        List<String> parts = parts();
        int hour = 0;
        for (int k = 0; k < worlds.size(); k++) {
            hour += k > 0 && isHour(parts.get(k - 1)) ? 1 : 0;
            Farm then = worlds.get(k).farms.get(farm);
            if (then.pails >= then.wants) {
                return hour;
            }
        }
        return NONE;
    }

    int takes(int farm, int what) {
        if (unknown(farm)) {
            return UNKNOWN;
        }
        return out(what, 0, 1) ? OUTSIDE : world.hour('.')[1 - what][farm];
    }

    int takesIf(int farm, int plugged) {
        if (unknown(farm) || unknown(plugged)) {
            return UNKNOWN;
        }
        return world.with(plugged, 4, 1 - world.farms.get(plugged).plugged).takes()[farm];
    }

    int robbed(int farm) {
        if (unknown(farm)) {
            return UNKNOWN;
        }
        int[] then = world.with(farm, 4, 1).takes();
        int[] takes = world.takes();
        return IntStream.range(0, n()).filter(f -> then[f] > takes[f]).map(f -> 1 << f).sum();
    }

    private static int least(int from, int to, IntPredicate so) {
        return IntStream.rangeClosed(from, to).filter(so).findFirst().orElse(NONE);
    }

    int hours() {
        return least(0, 99, m -> world.allHave(m));
    }

    int spring(int m) {
        return out(m, 1, 24) ? OUTSIDE : least(0, 99, s -> world.withSpring(s).allHave(m));
    }

    /** By raising the width of who has not enough until all have, or it can not be raised. */
    int narrow(int m, int farm) {
        if (farm != -1 && unknown(farm)) {
            return UNKNOWN;
        }
        if (out(m, 1, 24)) {
            return OUTSIDE;
        }
        World tried = world;
        for (int f = 0; f < n(); f++) {
            tried = tried.with(f, 1, 0);
        }
        while (!tried.allHave(m)) {
            int[] takes = tried.takes();
            int f = 0;
            while (tried.farms.get(f).pails + m * takes[f] >= tried.farms.get(f).wants) {
                f++;
            }
            if (tried.farms.get(f).width == 9) {
                return NONE;
            }
            tried = tried.with(f, 1, tried.farms.get(f).width + 1);
        }
        return farm == -1 ? tried.farms.stream().mapToInt(Farm::width).sum() : tried.farms.get(farm).width;
    }

    int highest(int farm, int m) {
        if (unknown(farm)) {
            return UNKNOWN;
        }
        if (out(m, 1, 24)) {
            return OUTSIDE;
        }
        return IntStream.rangeClosed(0, 50).filter(h -> world.with(farm, 0, h).allHave(m)).max().orElse(NONE);
    }

    int bored(int height, int width, int what) {
        if (out(height, 0, 50) || out(width, 0, 9) || out(what, 0, 1)) {
            return OUTSIDE;
        }
        if (n() == 9) {
            return STATE;
        }
        List<Integer> now = Told.list(world.takes());
        int[] best = {NONE, 0};
        for (int place = 0; place <= n(); place++) {
            List<Farm> farms = new ArrayList<>(world.farms);
            farms.add(place, new Farm(height, width, 0, 0, 0, 0, 0));
            List<Integer> then = new ArrayList<>(Told.list(world.with(farms).takes()));
            int much = then.remove(place);
            boolean noLess = IntStream.range(0, n()).allMatch(f -> then.get(f) >= now.get(f));
            if (noLess && much > best[1]) {
                best = new int[] {place, much};
            }
        }
        return best[0] == NONE ? NONE : best[what];
    }

    private boolean isFair(int x) {
        World all = world;
        for (int f = 0; f < n(); f++) {
            all = all.with(f, 1, x);
        }
        int[] takes = all.takes();
        return IntStream.range(0, n()).allMatch(f -> world.farms.get(f).plugged == 1 || takes[f] == x);
    }

    int fair() {
        return IntStream.rangeClosed(0, 9).filter(this::isFair).max().orElse(NONE);
    }

    int dry(int less) {
        if (out(less, 0, 99)) {
            return OUTSIDE;
        }
        int[] then = world.withSpring(Math.max(0, world.spring - less)).takes();
        int[] takes = world.takes();
        return least(0, n() - 1, f -> then[f] < takes[f]);
    }

    int seen(int farm, int took) {
        if (unknown(farm)) {
            return UNKNOWN;
        }
        if (out(took, 0, 9)) {
            return OUTSIDE;
        }
        if (world.sights.size() == 8) {
            return FULL;
        }
        List<int[]> sights = new ArrayList<>(world.sights);
        sights.add(new int[] {farm, took});
        return see(sights);
    }

    private int see(List<int[]> sights) {
        world = new World(world.farms, world.spring, world.rain, world.cows, world.ditch, sights);
        return sights.size();
    }

    int forget() {
        int were = world.sights.size();
        see(List.of());
        return were;
    }

    /** The worlds of leak's twos, by their numbers. */
    private TreeMap<Integer, World> leaks() {
        TreeMap<Integer, World> twos = new TreeMap<>();
        for (int f = 0; f < n(); f++) {
            for (int more = 1; more <= 9; more++) {
                int leaks = world.farms.get(f).leaks + more;
                World then = world.with(f, 5, leaks);
                if (leaks <= 9 && then.sightsAreSo()) {
                    twos.put(10 * f + more, then);
                }
            }
        }
        return twos;
    }

    private static int at(List<Integer> answers, int i) {
        if (i == -1) {
            return answers.size();
        }
        return i < -1 || i >= answers.size() ? NONE : answers.get(i);
    }

    int leak(int i) {
        return at(new ArrayList<>(leaks().keySet()), i);
    }

    int borer(int i) {
        List<Integer> twos = new ArrayList<>();
        for (int two = 0; two < 900; two++) {
            int f = two / 100;
            int height = two % 100;
            if (f < n() && height < world.farms.get(f).height && world.with(f, 0, height).sightsAreSo()) {
                twos.add(two);
            }
        }
        return at(twos, i);
    }

    int listen(int what) {
        if (out(what, 0, 1)) {
            return OUTSIDE;
        }
        TreeMap<Integer, World> twos = leaks();
        if (twos.isEmpty()) {
            return NONE;
        }
        int[] best = {NONE, Integer.MAX_VALUE};
        for (int f = 0; f < n(); f++) {
            Map<Integer, Integer> left = new TreeMap<>();
            for (World then : twos.values()) {
                left.merge(then.takes()[f], 1, Integer::sum);
            }
            int most = left.values().stream().max(Integer::compare).orElse(0);
            if (most < best[1]) {
                best = new int[] {f, most};
            }
        }
        return best[what];
    }

    private int gets(World row, int farm) {
        return 4 * row.takes()[farm] - 3 * row.farms.get(farm).width;
    }

    private void rows(World row, List<Integer> left, List<Integer> all, int digits, List<Integer> answers) {
        if (left.isEmpty()) {
            for (int f : all) {
                for (int width = 0; width <= 4; width++) {
                    if (gets(row.with(f, 1, width), f) > gets(row, f)) {
                        return;
                    }
                }
            }
            answers.add(digits);
            return;
        }
        for (int width = 0; width <= 4; width++) {
            World next = row.with(left.get(0), 1, width);
            rows(next, left.subList(1, left.size()), all, 10 * digits + width, answers);
        }
    }

    int rests(int set, int i) {
        if (set < 1 || set >= Math.pow(2, n())) {
            return OUTSIDE;
        }
        List<Integer> all = IntStream.range(0, n()).filter(f -> set / (1 << f) % 2 == 1).boxed().toList();
        if (all.size() > 3) {
            return FULL;
        }
        List<Integer> answers = new ArrayList<>();
        rows(world, all, all, 0, answers);
        return at(answers, i);
    }

    long frost(int farm, int v, int c, int m, int part) {
        long gone = -1000000000000000000L;
        if (unknown(farm)) {
            return gone + UNKNOWN;
        }
        if (out(v, 0, 99) || out(c, 0, 10) || out(m, 0, 12) || out(part, 0, 1)) {
            return gone + OUTSIDE;
        }
        Map<Integer, BigInteger> ways = new TreeMap<>(Map.of(0, BigInteger.ONE));
        for (int hour = 0; hour < m; hour++) {
            Map<Integer, BigInteger> next = new TreeMap<>();
            ways.forEach((taken, way) -> {
                next.merge(taken + world.hour('*')[1][farm], way.multiply(BigInteger.valueOf(c)), BigInteger::add);
                next.merge(taken + world.hour('.')[1][farm], way.multiply(BigInteger.valueOf(10 - c)),
                    BigInteger::add);
            });
            ways = next;
        }
        BigInteger upper = BigInteger.ZERO;
        for (Map.Entry<Integer, BigInteger> way : ways.entrySet()) {
            upper = way.getKey() >= v ? upper.add(way.getValue()) : upper;
        }
        BigInteger lower = BigInteger.TEN.pow(m);
        return (part == 0 ? upper : lower).divide(upper.gcd(lower)).longValueExact();
    }

    int year(int seed, int m, int what) {
        if (out(seed, 0, 9999) || out(m, 1, 99) || out(what, 0, 2)) {
            return OUTSIDE;
        }
        long x = seed;
        int[] answers = new int[3];
        for (int hour = 0; hour < m; hour++) {
            x = (x * 75 + 74) % 65537;
            int[][] course = world.hour("*++n......".charAt((int) (x % 10)));
            answers[0] += Arrays.stream(course[1]).sum();
            answers[1] += course[2][0];
            answers[2] += Arrays.stream(course[1]).anyMatch(taken -> taken == 0) ? 1 : 0;
        }
        return answers[what];
    }

    int image(int n) {
        if (out(n, 0, 1)) {
            return OUTSIDE;
        }
        images[n] = world;
        return 1;
    }

    int restore(int n) {
        if (out(n, 0, 1)) {
            return OUTSIDE;
        }
        if (images[n] == null) {
            return STATE;
        }
        world = images[n];
        return 1;
    }

    int told(int what) {
        List<Integer> all = List.of(pad.length(), n(), world.spring, world.rain, world.cows, world.ditch,
            world.sights.size());
        if (what >= 0 && what <= 6) {
            return all.get(what);
        }
        if (what < 10 || what / 10 > n() || what % 10 > 6) {
            return OUTSIDE;
        }
        return world.farms.get(what / 10 - 1).all()[what % 10];
    }
}
