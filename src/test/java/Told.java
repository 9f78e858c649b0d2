import java.util.ArrayList;
import java.util.List;

/** What the tests say to a SpringFarms, and all that it tells of itself. */
final class Told {
    static final int[] EXTREMES = {Integer.MIN_VALUE, Integer.MIN_VALUE + 1, -1000000, -7, -2, -1, 0, 1, 9, 10, 31, 32,
        33, 99, 100, 126, 127, 512, 1000000, Integer.MAX_VALUE - 1, Integer.MAX_VALUE};

    /** All that told() tells, in one text. */
    static String of(SpringFarms x) {
        StringBuilder text = new StringBuilder();
        for (int what = 0; what <= 6; what++) {
            text.append(x.told(what)).append(' ');
        }
        for (int f = 0; f < x.told(1); f++) {
            for (int fact = 0; fact <= 6; fact++) {
                text.append(x.told(10 * (1 + f) + fact)).append(' ');
            }
        }
        return text.toString();
    }

    static SpringFarms farms(int n) {
        SpringFarms x = new SpringFarms();
        x.farms(n);
        return x;
    }

    /** Puts a text on an empty pad. */
    static void pad(SpringFarms x, String text) {
        x.wipe();
        for (int k = 0; k < text.length(); k++) {
            x.say(text.charAt(k));
        }
    }

    static void hole(SpringFarms x, int farm, int height, int width) {
        x.farm(farm, 0, height);
        x.farm(farm, 1, width);
    }

    /** Three farms, the second north and behind a leaking log: plain hours give 3, 2, 4 and 10 to the ditch. */
    static SpringFarms three() {
        SpringFarms x = farms(3);
        hole(x, 0, 0, 3);
        hole(x, 1, 10, 2);
        hole(x, 2, 5, 4);
        x.farm(1, 3, 1);
        x.farm(1, 5, 1);
        return x;
    }

    static List<Integer> list(int[] numbers) {
        List<Integer> list = new ArrayList<>();
        for (int number : numbers) {
            list.add(number);
        }
        return list;
    }

    private Told() {
    }
}
