/** Builds blocks of bytes, and feeds them to a ScreenTalk. */
final class Blocks {
    final int[] bytes;

    /** A right base without any mode, maker "ABC", and empty extensions. */
    Blocks(int extensions) {
        bytes = new int[128 * (1 + extensions)];
        for (int i = 1; i < 7; i++) {
            bytes[i] = 255;
        }
        set(8, 4, 67);
        bytes[18] = 1;
        bytes[126] = extensions;
        for (int e = 1; e <= extensions; e++) {
            set(128 * e, 2, 3, 0, 0);
        }
    }

    Blocks set(int start, int... values) {
        System.arraycopy(values, 0, bytes, start, values.length);
        return this;
    }

    /** A detailed timing: CLOCK in tens of kHz, then H, its blank, front, sync, then V likewise. */
    Blocks detailed(int start, int clock, int... p) {
        int h = p[0], hb = p[1], hf = p[2], hs = p[3], v = p[4], vb = p[5], vf = p[6], vs = p[7];
        return set(start, clock % 256, clock / 256, h % 256, hb % 256, h / 256 * 16 + hb / 256,
            v % 256, vb % 256, v / 256 * 16 + vb / 256, hf % 256, hs % 256, vf % 16 * 16 + vs % 16,
            hf / 256 * 64 + hs / 256 * 16 + vf / 16 * 4 + vs / 16, 0, 0, 0, 0, 0, 0);
    }

    Blocks named(int start, String name) {
        set(start, 0, 0, 0, 0xFC, 0);
        for (int k = 0; k < 13; k++) {
            bytes[start + 5 + k] = k < name.length() ? name.charAt(k) : k == name.length() ? 10 : 32;
        }
        return this;
    }

    Blocks range(int start, int... five) {
        return set(start, 0, 0, 0, 0xFD, 0).set(start + 5, five);
    }

    /** Data of extension e, with END behind them. */
    Blocks data(int e, int... values) {
        bytes[128 * e + 2] = 4 + values.length;
        return set(128 * e + 4, values);
    }

    Blocks sealed() {
        for (int start = 0; start < bytes.length; start += 128) {
            int sum = 0;
            for (int i = 0; i < 127; i++) {
                sum += bytes[start + i];
            }
            bytes[start + 127] = -sum & 255;
        }
        return this;
    }

    Blocks fed(ScreenTalk x) {
        for (int i = 0; i < bytes.length; i += 20) {
            x.feed(four(i), four(i + 4), four(i + 8), four(i + 12), four(i + 16));
        }
        return this;
    }

    private int four(int i) {
        int all = 0;
        for (int k = 0; k < 4; k++) {
            all = all << 8 | (i + k < bytes.length ? bytes[i + k] : 0);
        }
        return all;
    }

    int load(ScreenTalk x) {
        fed(x);
        return x.load(bytes.length);
    }

    /** Sets the sums right, and loads. */
    int loadSealed(ScreenTalk x) {
        return sealed().load(x);
    }

    Blocks loadedOn(ScreenTalk x) {
        loadSealed(x);
        return this;
    }
}
