/** Promises 13 to 15: formula, descriptor, fastest. */
public final class FormulasTest {
    public static void main(String[] args) {
        plain();
        plainSync();
        narrow();
        refused();
        descriptor();
        fastest();
        Due.end();
    }

    private static void row(int kind, int h, int v, int hertz, int... want) {
        ScreenTalk x = new ScreenTalk();
        for (int what = 0; what < want.length; what++) {
            Due.due("13 formula(" + kind + ", " + h + ", " + v + ", " + hertz + ", " + what + ")",
                x.formula(kind, h, v, hertz, what), want[what]);
        }
    }

    private static void plain() {
        row(0, 1920, 1080, 60, 1920, 160, 48, 32, 1080, 31, 3, 5, 138500, 59933);
        row(0, 1927, 1080, 60, 1920, 160, 48, 32, 1080, 31, 3, 5, 138500, 59933);
        row(0, 2560, 1600, 60, 2560, 160, 48, 32, 1600, 46, 3, 6, 268500, 59971);
        row(0, 1280, 1024, 60, 1280, 160, 48, 32, 1024, 30, 3, 7, 91000, 59956);
        // the edges: few lines of blanking, and as much as there can be
        row(0, 64, 48, 20, 64, 160, 48, 32, 48, 13, 3, 4, 250, 18296);
        row(0, 4095, 4095, 240, 4088, 160, 48, 32, 4095, 509, 3, 10, 4693750, 239993);
    }

    private static void plainSync() {
        int[][] sizes = {{640, 480, 4}, {1280, 720, 5}, {1280, 800, 6}, {1280, 1024, 7}, {1280, 768, 7},
            {1280, 960, 4}, {1288, 720, 10}, {1272, 720, 10}, {1360, 768, 5}, {1366, 768, 5}, {1368, 768, 10},
            {848, 480, 5}, {800, 480, 7}, {768, 480, 6}, {600, 480, 7}, {4095, 48, 10}};
        for (int[] s : sizes) {
            ScreenTalk x = new ScreenTalk();
            Due.due("13 V SYNC of " + s[0] + "x" + s[1], x.formula(0, s[0], s[1], 60, 7), s[2]);
        }
    }

    private static void narrow() {
        row(1, 1920, 1080, 60, 1920, 80, 8, 32, 1080, 31, 17, 8, 133320, 60000);
        row(1, 1921, 1081, 60, 1921, 80, 8, 32, 1081, 31, 17, 8, 133506, 59999);
        row(1, 64, 48, 20, 64, 80, 8, 32, 48, 15, 1, 8, 181, 19951);
        row(1, 4095, 4095, 240, 4095, 80, 8, 32, 4095, 509, 495, 8, 4613208, 240000);
    }

    private static void refused() {
        ScreenTalk x = new ScreenTalk();
        int[][] sizes = {{63, 48, 60}, {4096, 48, 60}, {64, 47, 60}, {64, 4096, 60}, {64, 48, 19}, {64, 48, 241},
            {-1, 48, 60}, {64, Integer.MIN_VALUE, 60}, {64, 48, Integer.MAX_VALUE}};
        for (int kind = 0; kind < 2; kind++) {
            for (int[] s : sizes) {
                Due.due("13 a number", x.formula(kind, s[0], s[1], s[2], 0), -3);
                Due.due("13 what first", x.formula(kind, s[0], s[1], s[2], 10), -2);
                Due.due("13 formula first", x.formula(2, s[0], s[1], s[2], 0), -2);
                Due.due("14 a number", x.descriptor(kind, s[0], s[1], s[2], 0), -3);
                Due.due("14 k first", x.descriptor(kind, s[0], s[1], s[2], 18), -2);
                Due.due("14 formula first", x.descriptor(-1, s[0], s[1], s[2], 0), -2);
            }
        }
        Due.due("13 what -1", x.formula(0, 64, 48, 60, -1), -2);
        Due.due("13 kind -1", x.formula(-1, 64, 48, 60, 0), -2);
        Due.due("14 k -1", x.descriptor(0, 64, 48, 60, -1), -2);
        Due.due("14 k 17", x.descriptor(0, 64, 48, 60, 17), 0);
        Due.due("14 kind 2", x.descriptor(2, 64, 48, 60, 0), -2);
    }

    private static void descriptor() {
        ScreenTalk x = new ScreenTalk();
        int[] want = {0x1A, 0x36, 0x80, 0xA0, 0x70, 0x38, 0x1F, 0x40, 0x30, 0x20, 0x35, 0, 0, 0, 0, 0, 0, 0};
        for (int k = 0; k < 18; k++) {
            Due.due("14 1920x1080 descriptor byte " + k, x.descriptor(0, 1920, 1080, 60, k), want[k]);
        }
        // narrow 2560x1440 at 60: 41 lines, V FRONT 27, 234,590 kHz
        int[] narrow = {0xA3, 0x5B, 0x00, 0x50, 0xA0, 0xA0, 0x29, 0x50, 0x08, 0x20, 0xB8, 0x04, 0, 0, 0, 0, 0, 0};
        for (int k = 0; k < 18; k++) {
            Due.due("14 2560x1440 descriptor byte " + k, x.descriptor(1, 2560, 1440, 60, k), narrow[k]);
        }
        Due.due("14 V FRONT 63", x.formula(1, 800, 1345, 117, 6), 63);
        Due.due("14 V FRONT 63 has room", x.descriptor(1, 800, 1345, 117, 2), 0x20);
        Due.due("14 V FRONT 64", x.formula(1, 800, 1363, 117, 6), 64);
        Due.due("14 V FRONT 64 has none", x.descriptor(1, 800, 1363, 117, 2), -5);
        Due.due("14 CLOCK 655359", x.formula(1, 4062, 3984, 39, 8), 655359);
        Due.due("14 CLOCK 655359 has room", x.descriptor(1, 4062, 3984, 39, 0), 65535 % 256);
        Due.due("14 CLOCK 655360", x.formula(1, 4016, 3926, 40, 8), 655360);
        Due.due("14 CLOCK 655360 has none", x.descriptor(1, 4016, 3926, 40, 0), -5);
        Due.due("14 CLOCK of 73 hertz", x.formula(0, 3840, 2160, 73, 8), 652750);
        Due.due("14 CLOCK of 74 hertz", x.formula(0, 3840, 2160, 74, 8), 662000);
        for (int hertz = 20; hertz <= 240; hertz++) {
            Due.due("14 CLOCK at " + hertz, x.descriptor(0, 3840, 2160, hertz, 3), hertz <= 73 ? 160 : -5);
        }
    }

    private static void fastest() {
        ScreenTalk x = new ScreenTalk();
        int[][] asked = {{0, 1920, 1080, 4, 2, 8}, {1, 1920, 1080, 1, 0, 6}, {0, 4095, 4095, 4, 3, 12},
            {1, 64, 48, 1, 0, 6}, {0, 4095, 4095, 1, 0, 12}, {1, 2560, 1440, 2, 1, 10}};
        for (int[] a : asked) {
            int want = -1;
            for (int hertz = 20; hertz <= 240; hertz++) {
                if ((long) x.formula(a[0], a[1], a[2], hertz, 8) * 3 * a[5] <= x.room(a[3], a[4])) {
                    want = hertz;
                }
            }
            Due.due("15 fastest of " + a[1] + "x" + a[2], x.fastest(a[0], a[1], a[2], a[3], a[4], a[5]), want);
        }
        Due.due("15 NEED just as ROOM", x.fastest(1, 898, 1193, 1, 0, 6), 60);
        Due.due("15 20 at least, NEED just as ROOM", x.fastest(1, 1920, 885, 1, 0, 12), 20);
        Due.due("15 20 has no room", x.fastest(1, 1920, 886, 1, 0, 12), -1);
        Due.due("15 all of them", x.fastest(1, 64, 48, 1, 0, 6), 240);
        Due.due("15 none of them", x.fastest(0, 4095, 4095, 1, 0, 12), -1);
        Due.due("15 the formula first", x.fastest(2, 0, 0, 0, 0, 0), -2);
        Due.due("15 H", x.fastest(0, 63, 48, 1, 0, 6), -3);
        Due.due("15 V", x.fastest(0, 64, 4096, 1, 0, 6), -3);
        Due.due("15 lanes", x.fastest(0, 64, 48, 3, 0, 6), -3);
        Due.due("15 RATE", x.fastest(0, 64, 48, 1, 4, 6), -3);
        Due.due("15 RATE below 0", x.fastest(0, 64, 48, 1, -1, 6), -3);
        Due.due("15 DEPTH", x.fastest(0, 64, 48, 1, 0, 7), -3);
        Due.due("15 DEPTH 14", x.fastest(0, 64, 48, 1, 0, 14), -3);
    }
}
