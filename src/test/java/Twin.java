import java.math.BigInteger;
import java.util.ArrayList;
import java.util.Comparator;
import java.util.List;

/** The document once more, as plainly as the library allows: what ScreenTalk is held against. */
final class Twin {
    static final int[] RATES = {162000, 270000, 540000, 810000};
    static final String CODES = "1:640 480 800 525 25175;2:720 480 858 525 27000;3:720 480 858 525 27000;"
        + "4:1280 720 1650 750 74250;16:1920 1080 2200 1125 148500;17:720 576 864 625 27000;"
        + "18:720 576 864 625 27000;19:1280 720 1980 750 74250;31:1920 1080 2640 1125 148500;"
        + "32:1920 1080 2750 1125 74250;63:1920 1080 2200 1125 297000;95:3840 2160 4400 2250 297000;"
        + "97:3840 2160 4400 2250 594000";

    /** A timing with clock, h, hBlank, hFront, hSync, v, vBlank, vFront, vSync, interlaced, and where it was found. */
    record Timing(int clock, int h, int hb, int hf, int hs, int v, int vb, int vf, int vs, boolean laced,
                  int found, boolean first) {
        boolean broken() {
            return h * v == 0 || hb - hf - hs < 0 || vb - vf - vs < 0;
        }

        BigInteger by(long factor, long add) {
            BigInteger wholes = BigInteger.valueOf(h + hb).multiply(BigInteger.valueOf(v + vb));
            return BigInteger.valueOf(clock).multiply(BigInteger.valueOf(factor * 2))
                .add(wholes.multiply(BigInteger.valueOf(add))).divide(wholes.shiftLeft(1));
        }

        int hertz() {
            return by(1000, 1).intValueExact();
        }

        int thousandths() {
            return by(1000000, 0).min(BigInteger.valueOf(Integer.MAX_VALUE)).intValueExact();
        }

        int[] parts() {
            return new int[] {clock, h, hb, hf, hs, v, vb, vf, vs, laced ? 1 : 0, broken() ? 1 : 0};
        }

        String called() {
            return h + "x" + v + "@" + hertz() + (first ? "!" : "");
        }
    }

    final List<Timing> detailed = new ArrayList<>();
    final List<Timing> modes = new ArrayList<>();
    final List<Integer> codes = new ArrayList<>();
    final int[] leftOut = new int[7];
    int[] range;
    String name = "";
    int most;
    int sounds;
    int fault;
    int place = -1;

    Twin(int[] b) {
        checkAll(b);
        if (fault == 0) {
            read(b);
            List<Timing> all = new ArrayList<>(detailed);
            codes.forEach(code -> all.add(byCode(code)));
            byStandardAndEstablished(b, all);
            all.forEach(this::sift);
            modes.sort(Comparator.comparing((Timing t) -> !t.first).thenComparing(t -> -t.h * t.v)
                .thenComparing(t -> -t.hertz()));
        }
    }

    private void check(boolean wrong, int kind, int where) {
        if (wrong && fault == 0) {
            fault = kind;
            place = where;
        }
    }

    private void checkAll(int[] b) {
        check(b.length == 0 || b.length > 512 || b.length % 128 > 0, 1, b.length);
        for (int s = 0; fault == 0 && s < b.length; s += 128) {
            for (int i = 0; i < 8 && s == 0; i++) {
                check(b[i] != (i % 7 == 0 ? 0 : 255), 2, i);
            }
            check(s > 0 && b[s] != 2, 2, s);
            int sum = 0;
            for (int i = s; i < s + 128; i++) {
                sum += b[i];
            }
            check(sum % 256 != 0, 3, s + 127);
        }
        for (int s = 0; fault == 0 && s < b.length; s += 128) {
            check(s == 0 && b[18] != 1, 4, 18);
            check(s == 0 && b[126] != b.length / 128 - 1, 5, 126);
            check(s > 0 && (b[s + 2] > 0 && b[s + 2] < 4 || b[s + 2] > 127), 6, s + 2);
            for (int p = 4; s > 0 && p < b[s + 2]; p += b[s + p] % 32 + 1) {
                check(p + b[s + p] % 32 >= b[s + 2], 7, s + p);
                if (fault != 0) {
                    break;
                }
            }
        }
    }

    private static Timing timing(int[] b, int s, int found) {
        int[] e = java.util.Arrays.copyOfRange(b, s, s + 18);
        return new Timing((e[1] * 256 + e[0]) * 10, e[2] + e[4] / 16 * 256, e[3] + e[4] % 16 * 256,
            e[8] + e[11] / 64 * 256, e[9] + e[11] / 16 % 4 * 256, e[5] + e[7] / 16 * 256, e[6] + e[7] % 16 * 256,
            e[10] / 16 + e[11] / 4 % 4 * 16, e[10] % 16 + e[11] % 4 * 16, e[17] > 127, found, found == 0 && s == 54);
    }

    private void read(int[] b) {
        for (int s = 54; s < 126; s += 18) {
            if (b[s] + b[s + 1] > 0) {
                detailed.add(timing(b, s, 0));
            } else if (b[s + 3] == 252) {
                name = "";
                for (int k = s + 5; k < s + 18 && b[k] != 0 && b[k] != 10; k++) {
                    name += b[k] < 32 || b[k] > 126 ? '?' : (char) b[k];
                }
            } else if (b[s + 3] == 253) {
                range = java.util.Arrays.copyOfRange(b, s + 5, s + 10);
            }
        }
        for (int s = 128; s < b.length; s += 128) {
            int end = b[s + 2];
            for (int p = s + 4; p < s + end; p += b[p] % 32 + 1) {
                data(b, p);
            }
            for (int p = end; end > 0 && p + 17 < 127 && b[s + p] + b[s + p + 1] > 0; p += 18) {
                detailed.add(timing(b, s + p, 1));
            }
        }
    }

    private void data(int[] b, int p) {
        int length = b[p] % 32;
        for (int i = 1; i <= length && b[p] / 32 == 2; i++) {
            codes.add(b[p + i] % 128);
        }
        if (b[p] / 32 == 1) {
            sounds += length / 3;
        }
        if (b[p] / 32 == 3 && length > 6 && b[p + 1] == 3 && b[p + 2] == 12 && b[p + 3] == 0) {
            most = b[p + 7] * 5000;
        }
    }

    /** Null: UNKNOWN. */
    static Timing byCode(int code) {
        for (String row : CODES.split(";")) {
            if (row.startsWith(code + ":")) {
                String[] n = row.substring(row.indexOf(':') + 1).split(" ");
                int h = Integer.parseInt(n[0]);
                int v = Integer.parseInt(n[1]);
                return new Timing(Integer.parseInt(n[4]), h, Integer.parseInt(n[2]) - h, 0, 0, v,
                    Integer.parseInt(n[3]) - v, 0, 0, false, 2, false);
            }
        }
        return null;
    }

    static Timing plain(int h, int v, int hertz, int found) {
        h -= h % 8;
        int lines = (int) (460L * v * hertz / (1000000 - 460 * hertz)) + 1;
        int[][] shapes = {{4, 24, 4}, {16, 72, 5}, {16, 80, 6}, {5, 32, 7}, {15, 72, 7}};
        int sync = 10;
        for (int k = 4; k >= 0; k--) {
            sync = h / 8 == v * shapes[k][0] / shapes[k][1] ? shapes[k][2] : sync;
        }
        int vb = lines > sync + 9 ? lines : sync + 9;
        long clock = (long) hertz * (h + 160) * (v + vb);
        return new Timing((int) ((clock - clock % 250000) / 1000), h, 160, 48, 32, v, vb, 3, sync, false, found, false);
    }

    static Timing narrow(int h, int v, int hertz) {
        int lines = (int) (460L * v * hertz / (1000000 - 460 * hertz)) + 1;
        int vb = lines > 15 ? lines : 15;
        return new Timing((int) ((long) hertz * (h + 80) * (v + vb) / 1000), h, 80, 8, 32, v, vb, vb - 14, 8,
            false, 9, false);
    }

    private static void byStandardAndEstablished(int[] b, List<Timing> all) {
        int[][] shapes = {{10, 16}, {3, 4}, {4, 5}, {9, 16}};
        for (int s = 38; s < 54; s += 2) {
            if (b[s] != 0 && !(b[s] == 1 && b[s + 1] == 1)) {
                int h = b[s] * 8 + 248;
                int[] shape = shapes[b[s + 1] / 64];
                all.add(plain(h, h * shape[0] / shape[1], 60 + b[s + 1] % 64, 3));
            }
        }
        int[][] rows = {{35, 32, 640, 480, 60}, {35, 4, 640, 480, 75}, {35, 1, 800, 600, 60},
            {36, 8, 1024, 768, 60}, {36, 2, 1024, 768, 75}, {36, 1, 1280, 1024, 75}};
        for (int[] r : rows) {
            if ((b[r[0]] & r[1]) > 0) {
                all.add(plain(r[2], r[3], r[4], 4));
            }
        }
    }

    private void sift(Timing t) {
        if (t == null) {
            leftOut[1]++;
        } else if (t.broken()) {
            leftOut[0]++;
        } else if (t.laced) {
            leftOut[2]++;
        } else if (range != null && (t.hertz() < range[0] || t.hertz() > range[1] || t.clock / (t.h + t.hb) < range[2]
            || t.clock / (t.h + t.hb) > range[3] || t.clock > range[4] * 10000)) {
            leftOut[3]++;
        } else if (most > 0 && t.clock > most) {
            leftOut[4]++;
        } else if (modes.stream().anyMatch(m -> m.h == t.h && m.v == t.v && m.hertz() == t.hertz())) {
            leftOut[5]++;
        } else if (modes.size() == 40) {
            leftOut[6]++;
        } else {
            modes.add(t);
        }
    }

    /** The bytes of a base that tells modes 0 to 3, NAME and RANGE. */
    int[] forged(int[] base) {
        Blocks made = new Blocks(0).set(8, base[8], base[9]).set(21, base[21], base[22]);
        for (int i = 0; i < 4; i++) {
            if (i < modes.size()) {
                Timing t = modes.get(i);
                made.detailed(54 + 18 * i, t.clock / 10, t.h, t.hb, t.hf, t.hs, t.v, t.vb, t.vf, t.vs);
            } else if (i == modes.size() && !name.isEmpty()) {
                made.named(54 + 18 * i, name);
            } else if (i == modes.size() + 1 && range != null) {
                made.range(54 + 18 * i, range);
            }
        }
        return made.sealed().bytes;
    }

    /** The number of the best mode, its depth, and what is left of the room; null: none is carried. */
    int[] best(long room, int wish) {
        for (Timing t : modes) {
            for (int depth : new int[] {12, 10, 8, 6}) {
                if (depth <= wish && t.clock * 3L * depth <= room) {
                    return new int[] {modes.indexOf(t), depth, (int) (room - t.clock * 3L * depth)};
                }
            }
        }
        return null;
    }
}
