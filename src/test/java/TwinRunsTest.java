import java.util.Arrays;
import java.util.Random;
import java.util.stream.Collectors;

/** Whole runs of 512 calls of every kind in any order, right and wrong ones, each answer held against the twin's. */
public final class TwinRunsTest {
    private static final int RUNS = 600;
    private static final int CALLS = 512;
    // how often each comes: what changes something and what tells of a link that is trained come more often
    private static final String[] NAMES = ("fault fault mend mend told told told told name detailed detailed forged "
        + "forged mode mode mode called called find formula descriptor fastest wish room need best best cheapest lane "
        + "wire begin begin tries tries tries tries tries tries state state state level level level level fall fall "
        + "step step step shown shown trained margin laid enough would would count").split(" ");

    private final Random r;
    private final int seed;
    private final ScreenTalk x = new ScreenTalk();
    private final TwinTalk twin = new TwinTalk();
    private int said;

    private TwinRunsTest(int seed) {
        this.seed = seed;
        r = new Random(seed);
    }

    public static void main(String[] args) {
        for (int seed = 0; seed < RUNS; seed++) {
            new TwinRunsTest(seed).run();
        }
        Due.end();
    }

    private void run() {
        for (int l = 0; l < 4 && seed % 4 > 0; l++) {
            say("lane", l, r.nextInt(8 * (1 + seed % 4) - 1), r.nextInt(2 + seed % 13 * (seed % 13) / 13));
        }
        // blocks are fed in 26 calls at most, and then some more may come
        while (said + 40 < CALLS) {
            if (r.nextInt(60) == 0) {
                bytes();
            } else {
                String name = NAMES[r.nextInt(NAMES.length)];
                say(name, numbers(name));
            }
        }
    }

    private void say(String name, int... numbers) {
        String inside = Arrays.stream(numbers).mapToObj(Integer::toString).collect(Collectors.joining(", "));
        String call = name + "(" + inside + ")";
        said++;
        Due.due("run " + seed + ", call " + said + ": " + call, Say.to(x, call), twin.say(name, numbers));
    }

    private void bytes() {
        int[] b = TwinTest.someMaybeWrong(r).bytes;
        int before = twin.tapeLength();
        for (int i = 0; i < b.length; i += 20) {
            int[] five = new int[5];
            for (int k = i; k < i + 20; k++) {
                five[(k - i) / 4] = five[(k - i) / 4] << 8 | (k < b.length ? b[k] : r.nextInt(256));
            }
            say("feed", five);
        }
        switch (r.nextInt(12)) {
            case 0:
                return;
            case 1:
                say("load", -1 - r.nextInt(3));
                say("load", twin.tapeLength() + 1);
                break;
            case 2:
                say("load", r.nextInt(twin.tapeLength() + 1));
                return;
            case 3:
                say("load", twin.tapeLength());
                return;
            default:
        }
        say("load", Math.min(before + b.length, twin.tapeLength()));
    }

    /** From 0 to one below that; now and then one out of it. */
    private int below(int n) {
        if (r.nextInt(24) > 0) {
            return r.nextInt(Math.max(1, n));
        }
        int[] out = {-1, n, n + 1, Integer.MIN_VALUE, Integer.MAX_VALUE};
        return out[r.nextInt(out.length)];
    }

    private int from(int least, int greatest) {
        int[] out = {least - 1, greatest + 1, least, greatest};
        return r.nextInt(12) == 0 ? out[r.nextInt(out.length)] : least + r.nextInt(greatest - least + 1);
    }

    private int lanes() {
        int[] all = {1, 2, 4, 1, 2, 4, 1, 2, 4, 1, 2, 4, 3, 0, -1, 8};
        return all[r.nextInt(all.length)];
    }

    private int depth() {
        int[] all = {6, 8, 10, 12, 6, 8, 10, 12, 6, 8, 10, 12, 7, 4, 14, -8};
        return all[r.nextInt(all.length)];
    }

    private int[] several(int... numbers) {
        return numbers;
    }

    private int[] numbers(String name) {
        switch (name) {
            case "mend": return several(below(520));
            case "told": return several(below(27));
            case "name": return several(below(13));
            case "detailed": return several(below(twin.details()), below(11));
            case "forged": return several(below(128));
            case "mode": return several(below(twin.modes()), below(9));
            case "called": return several(below(twin.modes()), below(14));
            case "find": return twin.modes() > 0 ? twin.like(r.nextInt(twin.modes())) : several(640, 480, 60);
            case "formula": return several(below(2), from(64, 4095), from(48, 4095), from(20, 240), below(10));
            case "descriptor": return several(below(2), from(64, 4095), from(48, 2000), from(20, 90), below(18));
            case "fastest": return several(below(2), from(64, 4095), from(48, 4095), lanes(), below(4), depth());
            case "need": case "cheapest": return several(below(twin.modes()), depth());
            case "wish": return several(depth());
            case "best": return several(lanes(), below(4), below(2));
            case "lane": return several(below(4), below(r.nextInt(3) == 0 ? 31 : 16), below(r.nextInt(3) == 0 ? 13 : 5));
            case "room": case "wire": return several(lanes(), below(4));
            case "tries": return several(r.nextInt(4) == 0 ? from(1, 100) : 1 + r.nextInt(4));
            case "state": return several(below(8));
            case "level": return several(below(4), below(6));
            case "fall": return several(below(twin.fell()), below(4));
            case "step": return several(below(twin.tried()), below(7));
            case "shown": return several(below(3));
            case "trained": return several(below(6));
            case "margin": return several(below(4));
            case "count": return several(below(5));
            case "begin": case "enough": return several();
            default: return several(below(2));
        }
    }
}
