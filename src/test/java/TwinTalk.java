import java.util.Arrays;
import java.util.stream.IntStream;

/** Every call of the face once more, with its refusals, by the twins of a screen and of a link. */
final class TwinTalk {
    private static final String[] ORDERS = IntStream.rangeClosed(123, 3210).mapToObj(n -> String.format("%04d", n))
        .filter(n -> n.matches("[0-3]*") && n.chars().distinct().count() == 4).toArray(String[]::new);

    private final int[] loss = new int[4];
    private final int[] slow = new int[4];
    private int[] tape = {};
    private int[] latest = {};
    private int[] blocks = {};
    private Twin checked;
    private Twin screen;
    private TwinLink link;
    private int wish = 8;
    private int wireLanes = 4;
    private int wireRate = 2;

    int tapeLength() {
        return tape.length;
    }

    int modes() {
        return screen == null ? 0 : screen.modes.size();
    }

    int details() {
        return screen == null ? 0 : screen.detailed.size();
    }

    int tried() {
        return link == null ? 0 : link.steps.size();
    }

    int fell() {
        return link == null ? 0 : link.falls.size();
    }

    /** Some MODE's H, V, HERTZ. */
    int[] like(int i) {
        Twin.Timing m = screen.modes.get(i);
        return new int[] {m.h(), m.v(), m.hertz()};
    }

    int say(String name, int... a) {
        switch (name) {
            case "feed": return feed(a);
            case "load": return load(a[0]);
            case "fault": return Math.max(-1, pick(a[0], checked == null ? 0 : checked.fault, checked == null ? -1 : checked.place));
            case "mend": return mend(a[0]);
            case "told": return told(a[0]);
            case "name": return a[0] < 0 ? -3 : screen == null ? -1 : sign(screen.name, a[0]);
            case "detailed": return a[0] < 0 || a[0] >= details() ? -2 : pick(a[1], screen.detailed.get(a[0]).parts());
            case "forged": return a[0] < 0 || a[0] > 127 ? -2 : screen == null ? -5 : screen.forged(blocks)[a[0]];
            case "mode": return isMode(a[0]) ? mode(screen.modes.get(a[0]), a[1]) : -2;
            case "called": return !isMode(a[0]) ? -2 : a[1] < 0 ? -3 : sign(screen.modes.get(a[0]).called(), a[1]);
            case "find": return find(a);
            case "formula": return formula(a);
            case "descriptor": return descriptor(a);
            case "fastest": return fastest(a);
            default: return sayOfLinks(name, a);
        }
    }

    private int sayOfLinks(String name, int[] a) {
        switch (name) {
            case "wish": return isDepth(a[0]) ? wishAnew(a[0]) : -3;
            case "room": return isLink(a[0], a[1]) ? room(a[0], a[1]) : -3;
            case "need": return !isMode(a[0]) ? -2 : !isDepth(a[1]) ? -3 : screen.modes.get(a[0]).clock() * 3 * a[1];
            case "best": return a[2] < 0 || a[2] > 1 ? -2 : !isLink(a[0], a[1]) ? -3 : best(room(a[0], a[1]), a[2]);
            case "cheapest": return !isMode(a[0]) ? -2 : !isDepth(a[1]) ? -3 : cheapest(screen.modes.get(a[0]).clock() * 3 * a[1]);
            case "lane": return lane(a[0], a[1], a[2]);
            case "wire": return isLink(a[0], a[1]) ? wire(a[0], a[1]) : -3;
            case "begin":
                link = new TwinLink(loss, slow, wireLanes, wireRate);
                return room(wireLanes, wireRate);
            case "tries": return tries(a[0]);
            case "state": return state(a[0]);
            case "level": return a[0] < 0 || a[0] > 3 ? -2 : level(a[0], a[1]);
            case "fall": return a[0] < 0 || a[0] >= fell() ? -2 : pick(a[1], link.falls.get(a[0]));
            case "step": return a[0] < 0 || a[0] >= tried() ? -2 : pick(a[1], link.steps.get(a[0]));
            case "shown": return a[0] < 0 || a[0] > 2 ? -2 : link == null || link.phase != 3 ? -5 : best(link.room(), a[0]);
            default: return sayOnPaper(name, a);
        }
    }

    private int sayOnPaper(String name, int[] a) {
        TwinLink end = new TwinLink(loss, slow, wireLanes, wireRate).finish();
        switch (name) {
            case "trained":
                return pick(a[0], end.phase, end.lanes, end.rate, end.steps.size(), end.falls.size(), end.room());
            case "margin": return a[0] < 0 || a[0] > 3 ? -2 : margin(a[0], end.room());
            case "laid": return a[0] < 0 || a[0] > 1 ? -2 : laid()[a[0]];
            case "enough": return enough(end.room());
            case "would": return a[0] < 0 || a[0] > 1 ? -2 : end.phase == 4 ? -1 : best(end.room(), a[0]);
            case "count": return Math.max(-1, pick(a[0], blocks.length / 128, tape.length, wish, wireLanes, wireRate));
            default: throw new IllegalArgumentException("no such call: " + name);
        }
    }

    private static int pick(int what, int... all) {
        return what < 0 || what >= all.length ? -2 : all[what];
    }

    private static int sign(String text, int k) {
        return k < text.length() ? text.charAt(k) : -1;
    }

    private int feed(int[] five) {
        if (tape.length > 500) {
            return -4;
        }
        int from = tape.length;
        tape = Arrays.copyOf(tape, from + 20);
        for (int i = 0; i < 20; i++) {
            tape[from + i] = five[i / 4] >>> 24 - i % 4 * 8 & 255;
        }
        return tape.length;
    }

    private int load(int n) {
        if (n < 0 || n > tape.length) {
            return -3;
        }
        latest = Arrays.copyOf(tape, n);
        tape = new int[0];
        checked = new Twin(latest);
        if (checked.fault != 0) {
            return -30 - checked.fault;
        }
        screen = checked;
        blocks = latest;
        return screen.modes.size();
    }

    private int mend(int i) {
        if (i < 0 || i / 128 >= latest.length / 128) {
            return i < 0 ? -3 : -1;
        }
        int[] b = Arrays.copyOfRange(latest, i / 128 * 128, i / 128 * 128 + 128);
        for (b[i % 128] = 0; Arrays.stream(b).sum() % 256 != 0; b[i % 128]++) {
            continue;
        }
        return b[i % 128];
    }

    private int told(int what) {
        if (what < 0 || what > 26 || what > 16 && what < 20) {
            return -2;
        }
        if (screen == null) {
            return -5;
        }
        if (what >= 20) {
            return screen.leftOut[what - 20];
        }
        if (what >= 9 && what <= 13) {
            return screen.range == null ? -1 : screen.range[what - 9] * (what == 13 ? 10000 : 1);
        }
        String maker = String.format("%16s", Integer.toBinaryString(blocks[8] * 256 + blocks[9])).replace(' ', '0');
        if (what < 3) {
            return 64 + Integer.parseInt(maker.substring(1 + 5 * what, 6 + 5 * what), 2);
        }
        return pick(what - 3, blocks[21], blocks[22], blocks.length / 128 - 1, screen.detailed.size(), screen.sounds,
            screen.codes.size(), 0, 0, 0, 0, 0, screen.most, screen.name.length(), screen.modes.size());
    }

    private boolean isMode(int i) {
        return i >= 0 && i < modes();
    }

    private static int mode(Twin.Timing m, int what) {
        return pick(what, m.h(), m.v(), m.hertz(), m.clock(), m.h() + m.hb(), m.v() + m.vb(), m.found(),
            m.first() ? 1 : 0, m.thousandths());
    }

    private int find(int[] asked) {
        for (int i = 0; i < modes(); i++) {
            if (Arrays.equals(like(i), asked)) {
                return i;
            }
        }
        return -1;
    }

    private static boolean isSize(int h, int v) {
        return h >= 64 && h < 4096 && v >= 48 && v < 4096;
    }

    private static Twin.Timing drawn(int kind, int h, int v, int hertz) {
        return kind == 0 ? Twin.plain(h, v, hertz, 3) : Twin.narrow(h, v, hertz);
    }

    private static int formula(int[] a) {
        if (a[0] != 0 && a[0] != 1 || a[4] < 0 || a[4] > 9) {
            return -2;
        }
        if (!isSize(a[1], a[2]) || a[3] < 20 || a[3] > 240) {
            return -3;
        }
        Twin.Timing t = drawn(a[0], a[1], a[2], a[3]);
        return pick(a[4], t.h(), t.hb(), t.hf(), t.hs(), t.v(), t.vb(), t.vf(), t.vs(), t.clock(), t.thousandths());
    }

    private static int descriptor(int[] a) {
        if (a[0] != 0 && a[0] != 1 || a[4] < 0 || a[4] > 17) {
            return -2;
        }
        if (!isSize(a[1], a[2]) || a[3] < 20 || a[3] > 240) {
            return -3;
        }
        Twin.Timing t = drawn(a[0], a[1], a[2], a[3]);
        if (t.vf() > 63 || t.clock() > 655359) {
            return -5;
        }
        return new Blocks(0).detailed(54, t.clock() / 10, t.h(), t.hb(), t.hf(), t.hs(), t.v(), t.vb(), t.vf(), t.vs())
            .bytes[54 + a[4]];
    }

    private static int fastest(int[] a) {
        if (a[0] != 0 && a[0] != 1) {
            return -2;
        }
        if (!isSize(a[1], a[2]) || !isLink(a[3], a[4]) || !isDepth(a[5])) {
            return -3;
        }
        int greatest = -1;
        for (int hertz = 20; hertz <= 240; hertz++) {
            boolean carried = drawn(a[0], a[1], a[2], hertz).clock() * 3L * a[5] <= room(a[3], a[4]);
            greatest = carried ? hertz : greatest;
        }
        return greatest;
    }

    private static boolean isLink(int lanes, int rate) {
        return (lanes == 1 || lanes == 2 || lanes == 4) && rate >= 0 && rate < 4;
    }

    private static boolean isDepth(int depth) {
        return depth == 6 || depth == 8 || depth == 10 || depth == 12;
    }

    private static int room(int lanes, int rate) {
        return 8 * lanes * Twin.RATES[rate];
    }

    private int wishAnew(int depth) {
        int before = wish;
        wish = depth;
        return before;
    }

    private int best(int room, int what) {
        int[] best = screen == null ? null : screen.best(room, wish);
        return best == null ? -1 : best[what];
    }

    private static int cheapest(int need) {
        int cheapest = -1;
        for (int lanes = 4; lanes > 0; lanes /= 2) {
            for (int rate = 3; rate >= 0; rate--) {
                boolean dearer = cheapest >= 0 && room(cheapest / 10, cheapest % 10) < room(lanes, rate);
                cheapest = need <= room(lanes, rate) && !dearer ? 10 * lanes + rate : cheapest;
            }
        }
        return cheapest;
    }

    private int lane(int l, int newLoss, int newSlow) {
        if (l < 0 || l > 3) {
            return -2;
        }
        if (newLoss < 0 || newLoss > 30 || newSlow < 0 || newSlow > 12) {
            return -3;
        }
        int before = loss[l];
        loss[l] = newLoss;
        slow[l] = newSlow;
        link = null;
        return before;
    }

    private int wire(int lanes, int rate) {
        wireLanes = lanes;
        wireRate = rate;
        link = null;
        return room(lanes, rate);
    }

    private int tries(int n) {
        if (n < 1 || n > 100) {
            return -3;
        }
        if (link == null || link.phase > 2) {
            return -5;
        }
        int before = tried();
        while (tried() < before + n && link.phase < 3) {
            link.attempt();
        }
        return tried() - before;
    }

    private int state(int what) {
        if (link == null) {
            return pick(what, new int[8]);
        }
        int swing = link.live().stream().mapToInt(lane -> lane.swing).max().orElse(0);
        int emphasis = link.live().stream().mapToInt(lane -> lane.emphasis).max().orElse(0);
        return pick(what, link.phase, link.lanes, link.rate, link.phase < 3 ? link.tried : 0, tried(), fell(),
            swing, emphasis);
    }

    private int level(int l, int what) {
        TwinLink.Lane lane = link == null || l >= link.lanes || link.phase == 4 ? new TwinLink.Lane() : link.all.get(l);
        return pick(what, loss[l], slow[l], lane.swing, lane.emphasis, lane.clocked ? 1 : 0, lane.even ? 1 : 0);
    }

    private int margin(int l, int room) {
        int[] more = loss.clone();
        for (more[l] = 30; new TwinLink(more, slow, wireLanes, wireRate).finish().room() < room; more[l]--) {
            continue;
        }
        return more[l];
    }

    private int enough(int room) {
        int rate = 0;
        while (new TwinLink(loss, slow, wireLanes, rate).finish().room() < room) {
            rate++;
        }
        return rate;
    }

    /** The greatest ROOM, and the least order that comes to it. */
    private int[] laid() {
        int[] most = {-1, 0};
        for (String digits : ORDERS) {
            int[] laidLoss = digits.chars().map(d -> loss[d - '0']).toArray();
            int[] laidSlow = digits.chars().map(d -> slow[d - '0']).toArray();
            int room = new TwinLink(laidLoss, laidSlow, wireLanes, wireRate).finish().room();
            most = room > most[0] ? new int[] {room, Integer.parseInt(digits)} : most;
        }
        return most;
    }
}
