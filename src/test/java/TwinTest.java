import java.util.Random;

/** Many screens and links, each answer held against the twin's. */
public final class TwinTest {
    public static void main(String[] args) {
        for (int seed = 0; seed < 3000; seed++) {
            screen(new Random(seed), seed);
        }
        for (int seed = 0; seed < 3000; seed++) {
            link(new Random(seed), seed);
        }
        for (int seed = 0; seed < 3000; seed++) {
            formulas(new Random(seed));
        }
        Due.end();
    }

    private static Blocks some(Random r) {
        Blocks b = new Blocks(r.nextInt(4));
        b.set(8, r.nextInt(256), r.nextInt(256)).set(21, r.nextInt(256), r.nextInt(256));
        if (r.nextInt(3) == 0) {
            b.set(35, r.nextInt(256), r.nextInt(256));
        }
        for (int s = 38; s < 54; s += 2) {
            b.set(s, r.nextInt(3) == 0 ? r.nextInt(256) : r.nextInt(2), r.nextInt(3) == 0 ? r.nextInt(256) : 1);
        }
        for (int d = 0; d < 4; d++) {
            descriptor(b, 54 + 18 * d, r);
        }
        for (int e = 128; e < b.bytes.length; e += 128) {
            extension(b, e, r);
        }
        return b;
    }

    private static void descriptor(Blocks b, int at, Random r) {
        switch (r.nextInt(6)) {
            case 0:
                b.named(at, "Screen of a kind".substring(r.nextInt(15)));
                b.bytes[at + 5 + r.nextInt(13)] = r.nextInt(256);
                break;
            case 1:
                b.range(at, r.nextInt(70), 50 + r.nextInt(200), r.nextInt(60), 60 + r.nextInt(190), r.nextInt(256));
                break;
            case 2:
                for (int k = 0; k < 18; k++) {
                    b.bytes[at + k] = r.nextInt(256);
                }
                break;
            case 3:
                break;
            default:
                int h = 100 * (1 + r.nextInt(30));
                int v = 100 * (1 + r.nextInt(20));
                b.detailed(at, Math.min(65535, (h + 100) * (v + 50) / 10000 * (40 + r.nextInt(60))) | 1, h, 100, r.nextInt(60),
                    r.nextInt(45), v, 50, r.nextInt(30), r.nextInt(22));
                b.bytes[at + 17] = r.nextInt(8) == 0 ? 128 : 0;
        }
    }

    private static void extension(Blocks b, int e, Random r) {
        int end = r.nextInt(8) == 0 ? 0 : 4;
        int[] known = {1, 2, 3, 4, 16, 17, 18, 19, 31, 32, 63, 95, 97};
        for (int n = r.nextInt(5); n > 0 && end > 0; n--) {
            int length = Math.min(r.nextInt(32), 120 - end);
            if (length < 0) {
                break;
            }
            int kind = r.nextInt(5);
            b.bytes[e + end] = kind * 32 + length;
            for (int k = 1; k <= length; k++) {
                b.bytes[e + end + k] = r.nextInt(3) == 0 ? r.nextInt(256) : known[r.nextInt(13)] + 128 * r.nextInt(2);
            }
            if (kind == 3 && length >= 7) {
                b.set(e + end + 1, 3, 12, r.nextInt(4) / 3);
                b.bytes[e + end + 7] = r.nextInt(3) == 0 ? 0 : r.nextInt(256);
            }
            end += 1 + length;
        }
        b.bytes[e + 2] = end;
        for (int at = end; end > 0 && at + 18 <= 127; at += 18) {
            descriptor(b, e + at, r);
        }
    }

    /** Right ones, or, one time of three, with two bytes that may be wrong. */
    static Blocks someMaybeWrong(Random r) {
        Blocks b = some(r).sealed();
        if (r.nextInt(3) == 0) {
            int[] places = {0, 3, 7, 18, 126, 127, 128, 130, 132, 200, 256, 258, 260, 384, 386, 388};
            for (int n = 0; n < 2; n++) {
                int i = places[r.nextInt(places.length)];
                b.bytes[i < b.bytes.length ? i : 60] = r.nextInt(256);
            }
            if (r.nextInt(4) > 0) {
                b.sealed();
            }
        }
        return b;
    }

    private static void screen(Random r, int seed) {
        ScreenTalk x = new ScreenTalk();
        Blocks b = someMaybeWrong(r);
        Twin t = new Twin(b.bytes);
        String s = "screen " + seed + ": ";
        Due.due(s + "load", b.load(x), t.fault == 0 ? t.modes.size() : -30 - t.fault);
        Due.due(s + "fault", x.fault(0), t.fault);
        Due.due(s + "place", x.fault(1), t.place);
        if (t.fault == 0) {
            told(s, x, t, b);
            modes(s, x, t, r);
        }
    }

    private static void told(String s, ScreenTalk x, Twin t, Blocks b) {
        int maker = b.bytes[8] * 256 + b.bytes[9];
        int[] range = t.range;
        int[] want = {64 + maker / 1024 % 32, 64 + maker / 32 % 32, 64 + maker % 32, b.bytes[21], b.bytes[22],
            b.bytes.length / 128 - 1, t.detailed.size(), t.sounds, t.codes.size(), range == null ? -1 : range[0],
            range == null ? -1 : range[1], range == null ? -1 : range[2], range == null ? -1 : range[3],
            range == null ? -1 : range[4] * 10000, t.most, t.name.length(), t.modes.size()};
        for (int what = 0; what < want.length; what++) {
            Due.due(s + "told " + what, x.told(what), want[what]);
        }
        for (int why = 0; why < 7; why++) {
            Due.due(s + "left out by " + why, x.told(20 + why), t.leftOut[why]);
        }
        for (int k = 0; k < 14; k++) {
            Due.due(s + "name " + k, x.name(k), k < t.name.length() ? t.name.charAt(k) : -1);
        }
        for (int k = 0; k <= t.detailed.size(); k++) {
            for (int what = 0; what < 11; what++) {
                Due.due(s + "detailed " + k, x.detailed(k, what),
                    k < t.detailed.size() ? t.detailed.get(k).parts()[what] : -2);
            }
        }
        int[] forged = t.forged(b.bytes);
        for (int i = 0; i < 128; i++) {
            Due.due(s + "forged " + i, x.forged(i), forged[i]);
        }
    }

    private static void modes(String s, ScreenTalk x, Twin t, Random r) {
        for (int i = 0; i < t.modes.size(); i++) {
            Twin.Timing m = t.modes.get(i);
            int[] want = {m.h(), m.v(), m.hertz(), m.clock(), m.h() + m.hb(), m.v() + m.vb(), m.found(),
                m.first() ? 1 : 0, m.thousandths(), -2};
            for (int what = 0; what < want.length; what++) {
                Due.due(s + "mode " + i + ", " + what, x.mode(i, what), want[what]);
            }
            for (int k = 0; k <= m.called().length(); k++) {
                Due.due(s + "called", x.called(i, k), k < m.called().length() ? m.called().charAt(k) : -1);
            }
            Due.due(s + "find", x.find(m.h(), m.v(), m.hertz()), i);
            int depth = 6 + 2 * r.nextInt(4);
            Due.due(s + "need", x.need(i, depth), m.clock() * 3 * depth);
            int link = -1;
            for (int rate = 3; rate >= 0; rate--) {
                for (int lanes = 4; lanes >= 1; lanes /= 2) {
                    boolean less = link < 0 || x.room(lanes, rate) < x.room(link / 10, link % 10)
                        || x.room(lanes, rate) == x.room(link / 10, link % 10) && lanes < link / 10;
                    link = less && x.room(lanes, rate) >= m.clock() * 3 * depth ? lanes * 10 + rate : link;
                }
            }
            Due.due(s + "cheapest", x.cheapest(i, depth), link);
        }
        int wish = 6 + 2 * r.nextInt(4);
        x.wish(wish);
        for (int link = 0; link < 12; link++) {
            int[] best = t.best(8L * (1 << link / 4) * Twin.RATES[link % 4], wish);
            for (int what = 0; what < 2; what++) {
                Due.due(s + "best", x.best(1 << link / 4, link % 4, what), best == null ? -1 : best[what]);
            }
        }
        trainedLink(s, x, t, wish, r);
    }

    private static void trainedLink(String s, ScreenTalk x, Twin t, int wish, Random r) {
        x.lane(0, r.nextInt(26), r.nextInt(3));
        x.wire(1, r.nextInt(4));
        x.begin();
        x.tries(100);
        boolean up = x.state(0) == 3;
        int[] best = up ? t.best(x.room(x.state(1), x.state(2)), wish) : null;
        for (int what = 0; what < 3; what++) {
            Due.due(s + "shown", x.shown(what), !up ? -5 : best == null ? -1 : best[what]);
        }
        for (int what = 0; what < 2; what++) {
            Due.due(s + "would", x.would(what), best == null ? -1 : best[what]);
        }
    }

    private static void link(Random r, int seed) {
        String s = "link " + seed + ": ";
        int[] loss = new int[4];
        int[] slow = new int[4];
        ScreenTalk x = new ScreenTalk();
        for (int l = 0; l < 4; l++) {
            loss[l] = r.nextInt(seed % 3 == 0 ? 31 : 24);
            slow[l] = r.nextInt(2) * r.nextInt(seed % 2 == 0 ? 13 : 9);
            x.lane(l, loss[l], slow[l]);
        }
        int lanes = 1 << r.nextInt(3);
        int rate = r.nextInt(4);
        x.wire(lanes, rate);
        TwinLink t = new TwinLink(loss, slow, lanes, rate);
        x.begin();
        sameState(s, x, t);
        while (t.phase < 3) {
            t.attempt();
            Due.due(s + "tries", x.tries(1), 1);
            sameState(s, x, t);
        }
        for (int k = 0; k <= t.steps.size(); k++) {
            for (int what = 0; what < 7; what++) {
                Due.due(s + "step " + k + ", " + what, x.step(k, what), k < t.steps.size() ? t.steps.get(k)[what] : -2);
            }
        }
        for (int k = 0; k <= t.falls.size(); k++) {
            for (int what = 0; what < 4; what++) {
                Due.due(s + "fall " + k + ", " + what, x.fall(k, what), k < t.falls.size() ? t.falls.get(k)[what] : -2);
            }
        }
        int[] ends = {t.phase, t.lanes, t.rate, t.steps.size(), t.falls.size(), t.room()};
        for (int what = 0; what < ends.length; what++) {
            Due.due(s + "trained " + what, x.trained(what), ends[what]);
        }
        onPaper(s, x, t, loss, slow, lanes);
    }

    private static void onPaper(String s, ScreenTalk x, TwinLink t, int[] loss, int[] slow, int lanes) {
        for (int l = 0; l < 4; l++) {
            int[] more = loss.clone();
            int greatest = -1;
            for (more[l] = 0; more[l] <= 30; more[l]++) {
                greatest = new TwinLink(more, slow, lanes, t.wireRate).finish().room() >= t.room() ? more[l] : greatest;
            }
            Due.due(s + "margin " + l, x.margin(l), greatest);
        }
        int enough = 3;
        for (int rate = 3; rate >= 0; rate--) {
            enough = new TwinLink(loss, slow, lanes, rate).finish().room() >= t.room() ? rate : enough;
        }
        Due.due(s + "enough", x.enough(), enough);
    }

    private static void sameState(String s, ScreenTalk x, TwinLink t) {
        int swing = 0;
        int emphasis = 0;
        for (int l = 0; l < 4; l++) {
            TwinLink.Lane lane = t.all.get(l);
            boolean live = l < t.lanes && t.phase < 4;
            int[] want = {lane.loss, lane.slow, live ? lane.swing : 0, live ? lane.emphasis : 0,
                live && lane.clocked ? 1 : 0, live && lane.even ? 1 : 0};
            for (int what = 0; what < want.length; what++) {
                Due.due(s + "level " + l + ", " + what, x.level(l, what), want[what]);
            }
            swing = Math.max(swing, want[2]);
            emphasis = Math.max(emphasis, want[3]);
        }
        int[] want = {t.phase, t.lanes, t.rate, t.phase < 3 ? t.tried : 0, t.steps.size(), t.falls.size(), swing, emphasis};
        for (int what = 0; what < want.length; what++) {
            Due.due(s + "state " + what, x.state(what), want[what]);
        }
    }

    private static void formulas(Random r) {
        ScreenTalk x = new ScreenTalk();
        int h = 64 + r.nextInt(4032);
        int v = r.nextBoolean() ? 48 + r.nextInt(4048) : Math.max(48, h * 9 / 16);
        int hertz = 20 + r.nextInt(221);
        for (int kind = 0; kind < 2; kind++) {
            Twin.Timing t = kind == 0 ? Twin.plain(h, v, hertz, 3) : Twin.narrow(h, v, hertz);
            int[] want = {t.h(), t.hb(), t.hf(), t.hs(), t.v(), t.vb(), t.vf(), t.vs(), t.clock(), t.thousandths()};
            String s = kind + " " + h + "x" + v + "@" + hertz + " ";
            for (int what = 0; what < want.length; what++) {
                Due.due(s + what, x.formula(kind, h, v, hertz, what), want[what]);
            }
            boolean room = t.vf() < 64 && t.clock() < 655360;
            Blocks b = new Blocks(0);
            if (room) {
                b.detailed(54, t.clock() / 10, t.h(), t.hb(), t.hf(), t.hs(), t.v(), t.vb(), t.vf(), t.vs());
            }
            for (int k = 0; k < 18; k++) {
                Due.due(s + "byte " + k, x.descriptor(kind, h, v, hertz, k), room ? b.bytes[54 + k] : -5);
            }
        }
    }
}
