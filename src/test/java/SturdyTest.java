import com.sun.management.ThreadMXBean;
import java.lang.management.ManagementFactory;
import java.util.Arrays;
import java.util.Random;

/** Any arguments in any state: nothing is thrown, refused calls change nothing, and no call makes objects. */
public final class SturdyTest {
    private static final int CALLS = 512;

    public static void main(String[] args) {
        for (int seed = 0; seed < 400; seed++) {
            run(seed);
        }
        room();
        Due.end();
    }

    private static void run(int seed) {
        Random random = new Random(seed);
        ScreenTalk x = new ScreenTalk();
        for (int i = 0; i < CALLS; i++) {
            if (random.nextInt(20) == 0) {
                loadSome(x, random);
            }
            int[] a = new int[6];
            for (int k = 0; k < a.length; k++) {
                a[k] = anyNumber(random);
            }
            int which = random.nextInt(35);
            int[] before = everything(x);
            int answer = call(x, which, a);
            boolean refused = answer <= -2 && answer >= -5;
            if (refused && !Arrays.equals(before, everything(x))) {
                Due.holds("seed " + seed + ": refused call " + which + Arrays.toString(a) + " changes nothing", false);
            }
        }
        Due.holds("seed " + seed + " ends", true);
    }

    private static int anyNumber(Random random) {
        switch (random.nextInt(8)) {
            case 0: return random.nextInt();
            case 1: return random.nextBoolean() ? Integer.MAX_VALUE : Integer.MIN_VALUE;
            case 2: return random.nextInt(600) - 20;
            case 3: return 64 + random.nextInt(4100);
            default: return random.nextInt(15) - 2;
        }
    }

    static void loadSome(ScreenTalk x, Random random) {
        x.load(0);
        Blocks blocks = new Blocks(random.nextInt(4));
        for (int k = random.nextInt(90); k >= 0; k--) {
            int i = random.nextInt(blocks.bytes.length);
            boolean fixed = i < 8 || i == 18 || i == 126 || i > 127 && (i % 128 == 0 || i % 128 == 2);
            if (!fixed || random.nextInt(100) == 0) {
                blocks.bytes[i] = random.nextInt(256);
            }
        }
        if (random.nextInt(10) != 0) {
            blocks.sealed();
        }
        blocks.load(x);
    }

    static int call(ScreenTalk x, int which, int... a) {
        switch (which) {
            case 0: return x.feed(a[0], a[1], a[2], a[3], a[4]);
            case 1: return x.load(a[0]);
            case 2: return x.fault(a[0]);
            case 3: return x.mend(a[0]);
            case 4: return x.told(a[0]);
            case 5: return x.name(a[0]);
            case 6: return x.detailed(a[0], a[1]);
            case 7: return x.forged(a[0]);
            case 8: return x.mode(a[0], a[1]);
            case 9: return x.called(a[0], a[1]);
            case 10: return x.find(a[0], a[1], a[2]);
            case 11: return x.formula(a[0], a[1], a[2], a[3], a[4]);
            case 12: return x.descriptor(a[0], a[1], a[2], a[3], a[4]);
            case 13: return x.fastest(a[0], a[1], a[2], a[3], a[4], a[5]);
            case 14: return x.wish(a[0]);
            case 15: return x.room(a[0], a[1]);
            case 16: return x.need(a[0], a[1]);
            case 17: return x.best(a[0], a[1], a[2]);
            case 18: return x.cheapest(a[0], a[1]);
            case 19: return x.lane(a[0], a[1], a[2]);
            case 20: return x.wire(a[0], a[1]);
            case 21: return x.begin();
            case 22: return x.tries(a[0]);
            case 23: return x.state(a[0]);
            case 24: return x.level(a[0], a[1]);
            case 25: return x.fall(a[0], a[1]);
            case 26: return x.step(a[0], a[1]);
            case 27: return x.shown(a[0]);
            case 28: return x.trained(a[0]);
            case 29: return x.margin(a[0]);
            case 30: return x.laid(a[0]);
            case 31: return x.enough();
            case 32: return x.would(a[0]);
            default: return x.count(a[0]);
        }
    }

    /** The answers of calls that ask only. */
    private static int[] everything(ScreenTalk x) {
        int[] all = new int[600];
        int n = 0;
        for (int what = 0; what < 27; what++) {
            all[n++] = x.told(what);
            all[n++] = x.forged(what * 4);
            all[n++] = x.mend(what * 19);
            all[n++] = x.count(what);
            all[n++] = x.state(what);
            all[n++] = x.fault(what);
            all[n++] = x.name(what);
        }
        for (int i = 0; i < 12; i++) {
            for (int what = 0; what < 9; what++) {
                all[n++] = x.mode(i, what);
                all[n++] = x.step(i * 3, what);
            }
            for (int what = 0; what < 4; what++) {
                all[n++] = x.fall(i, what);
                all[n++] = x.level(i, what + 2);
            }
        }
        return all;
    }

    /** The room of a run is bounded, so calls reuse what the constructor made. */
    private static void room() {
        ScreenTalk x = new ScreenTalk();
        new Blocks(1).detailed(54, 65535, 1111, 0, 0, 0, 1, 0, 0, 0).data(1, 0x43, 97, 63, 17).loadSealed(x);
        dear(x);
        ThreadMXBean bean = (ThreadMXBean) ManagementFactory.getThreadMXBean();
        long id = Thread.currentThread().getId();
        bean.getThreadAllocatedBytes(id);
        long before = bean.getThreadAllocatedBytes(id);
        for (int i = 0; i < 1000; i++) {
            dear(x);
        }
        long made = bean.getThreadAllocatedBytes(id) - before;
        Due.holds("calls make no objects, they made " + made + " bytes", made < 20000);
        before = bean.getThreadAllocatedBytes(id);
        x = new ScreenTalk();
        made = bean.getThreadAllocatedBytes(id) - before;
        Due.holds("an object is small, it has " + made + " bytes", made < 40000 && x.count(0) == 0);
    }

    private static void dear(ScreenTalk x) {
        x.margin(0);
        x.laid(1);
        x.enough();
        x.would(0);
        x.begin();
        x.tries(100);
        x.called(0, 0);
        x.formula(0, 640, 480, 60, 0);
        x.fastest(0, 4095, 4095, 1, 0, 12);
        x.forged(0);
        x.cheapest(0, 12);
        x.load(0);
    }
}
