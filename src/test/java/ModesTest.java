/** Promises 10 to 12: mode, called, find, and which MODES are left in which order. */
public final class ModesTest {
    private static final int[] FULL_HD = {1920, 280, 88, 44, 1080, 45, 4, 5};

    public static void main(String[] args) {
        codes();
        standard();
        established();
        hertzOfModes();
        preferred();
        order();
        leftOutByRange();
        leftOutByMost();
        leftOutInOrder();
        forty();
        called();
        find();
        Due.end();
    }

    private static void row(String what, ScreenTalk x, int i, int... want) {
        for (int k = 0; k < want.length; k++) {
            Due.due("10 " + what + ": mode(" + i + ", " + k + ")", x.mode(i, k), want[k]);
        }
    }

    private static void codes() {
        int[][] table = {
            {1, 640, 480, 60, 800, 525, 25175, 59940}, {2, 720, 480, 60, 858, 525, 27000, 59940},
            {3, 720, 480, 60, 858, 525, 27000, 59940}, {4, 1280, 720, 60, 1650, 750, 74250, 60000},
            {16, 1920, 1080, 60, 2200, 1125, 148500, 60000}, {17, 720, 576, 50, 864, 625, 27000, 50000},
            {18, 720, 576, 50, 864, 625, 27000, 50000}, {19, 1280, 720, 50, 1980, 750, 74250, 50000},
            {31, 1920, 1080, 50, 2640, 1125, 148500, 50000}, {32, 1920, 1080, 24, 2750, 1125, 74250, 24000},
            {63, 1920, 1080, 120, 2200, 1125, 297000, 120000}, {95, 3840, 2160, 30, 4400, 2250, 297000, 30000},
            {97, 3840, 2160, 60, 4400, 2250, 594000, 60000}};
        int known = 0;
        for (int code = 0; code < 128; code++) {
            ScreenTalk x = new ScreenTalk();
            int modes = new Blocks(1).data(1, 0x41, code | 128).loadSealed(x);
            known += modes;
            Due.due("10 code " + code + " is unknown", x.told(21), 1 - modes);
            for (int[] t : table) {
                if (t[0] == code) {
                    row("code " + code, x, 0, t[1], t[2], t[3], t[6], t[4], t[5], 2, 0, t[7]);
                }
            }
        }
        Due.due("10 known codes", known, table.length);
    }

    private static void standard() {
        ScreenTalk x = new ScreenTalk();
        Blocks blocks = new Blocks(0).set(38, 0, 0x40, 1, 1, 0x81, 0x80, 0xD1, 0xC0, 0x61, 0x4F, 0x95, 0x00, 1, 0, 255, 63);
        Due.due("10 standard ones", blocks.loadSealed(x), 6);
        // 255, 63: 2288 by ten of 16 at 123; its wholes and clock by the plain formula
        row("standard", x, 0, 2288, 1430, 123, 456250, 2448, 1516, 3, 0);
        row("standard", x, 1, 1920, 1080, 60, 138500, 2080, 1111, 3, 0);
        row("standard", x, 2, 1280, 1024, 60, 91000, 1440, 1054, 3, 0);
        row("standard", x, 3, 1440, 900, 60, 88750, 1600, 926, 3, 0);
        row("standard", x, 4, 1024, 768, 75, 70500, 1184, 796, 3, 0);
        // 256 by 160 at 60: the cut of the clock leaves less
        row("standard", x, 5, 256, 160, 58, 4250, 416, 175, 3, 0, 58379);
        new Blocks(0).set(38, 1, 2, 0, 0, 0, 1, 0, 255).loadSealed(x);
        Due.due("10 first 1, second 2 is one", x.told(16), 1);
        Blocks last = new Blocks(0).set(52, 0x81, 0x80);
        Due.due("10 the eighth standard one", last.loadSealed(x), 1);
    }

    private static void established() {
        // 640x480 of 60 comes to 59.46 by the cut of its clock
        int[][] bits = {{35, 5, 640, 480, 59, 23500}, {35, 2, 640, 480, 75, 29750}, {35, 0, 800, 600, 60, 35500},
            {36, 3, 1024, 768, 60, 56000}, {36, 1, 1024, 768, 75, 70500}, {36, 0, 1280, 1024, 75, 114500}};
        int found = 0;
        for (int at = 35; at <= 36; at++) {
            for (int bit = 0; bit < 8; bit++) {
                ScreenTalk x = new ScreenTalk();
                found += new Blocks(0).set(at, 1 << bit).loadSealed(x);
                for (int[] b : bits) {
                    if (b[0] == at && b[1] == bit) {
                        row("established", x, 0, b[2], b[3], b[4], b[5]);
                        Due.due("10 found", x.mode(0, 6), 4);
                        Due.due("10 whole H", x.mode(0, 4), b[2] + 160);
                    }
                }
            }
        }
        Due.due("10 established bits", found, 6);
    }

    private static void hertzOfModes() {
        ScreenTalk x = new ScreenTalk();
        // 40 MHz by 1000 and 800 is just 50; 50.5 is up, less than it is down
        new Blocks(0).detailed(54, 4000, 800, 200, 1, 1, 600, 200, 1, 1)
            .detailed(72, 4040, 800, 200, 1, 1, 600, 200, 1, 1)
            .detailed(90, 4039, 800, 200, 1, 1, 600, 200, 1, 1).loadSealed(x);
        Due.due("10 half is up", x.mode(1, 2), 51);
        Due.due("10 thousandths", x.mode(1, 8), 50500);
        Due.due("10 less than half is like 50", x.told(25), 1);
        new Blocks(0).detailed(54, 65535, 1, 0, 0, 0, 1, 0, 0, 0).loadSealed(x);
        row("1 by 1", x, 0, 1, 1, 655350000, 655350, 1, 1, 0, 1, Integer.MAX_VALUE);
        new Blocks(0).detailed(54, 65535, 305, 0, 0, 0, 1, 0, 0, 0).loadSealed(x);
        Due.due("10 just above the greatest int", x.mode(0, 8), Integer.MAX_VALUE);
        new Blocks(0).detailed(54, 65535, 306, 0, 0, 0, 1, 0, 0, 0).loadSealed(x);
        Due.due("10 just below the greatest int", x.mode(0, 8), 2141666666);
        Due.due("10 mode(0, 9)", x.mode(0, 9), -2);
        Due.due("10 mode(0, -1)", x.mode(0, -1), -2);
        Due.due("10 mode(1, 0)", x.mode(1, 0), -2);
        Due.due("10 mode(-1, 0)", x.mode(-1, 0), -2);
    }

    private static void preferred() {
        ScreenTalk x = new ScreenTalk();
        Blocks blocks = new Blocks(0).detailed(54, 2500, 640, 160, 1, 1, 480, 45, 1, 1).detailed(72, 14850, FULL_HD);
        blocks.loadSealed(x);
        row("preferred", x, 0, 640, 480, 60, 25000, 800, 525, 0, 1);
        row("behind it", x, 1, 1920, 1080, 60, 148500, 2200, 1125, 0, 0);
        blocks.set(71, 0x80).loadSealed(x);
        row("the first is interlaced", x, 0, 1920, 1080, 60, 148500, 2200, 1125, 0, 0);
        blocks.named(54, "name").loadSealed(x);
        row("the first tells a name", x, 0, 1920, 1080, 60, 148500, 2200, 1125, 0, 0);
        Blocks later = new Blocks(1).set(130, 4).detailed(132, 14850, FULL_HD);
        later.loadSealed(x);
        row("of an extension", x, 0, 1920, 1080, 60, 148500, 2200, 1125, 1, 0);
    }

    private static void order() {
        ScreenTalk x = new ScreenTalk();
        // 1000x600, 600x1000 and 800x750 have the same size
        new Blocks(1).named(54, "n").detailed(72, 4800, 1000, 0, 0, 0, 600, 200, 0, 0)
            .detailed(90, 6000, 600, 400, 0, 0, 1000, 0, 0, 0).data(1, 0x42, 97, 95)
            .detailed(128 + 7, 6000, 800, 200, 0, 0, 750, 250, 0, 0)
            .detailed(128 + 25, 6100, 750, 250, 0, 0, 800, 200, 0, 0).loadSealed(x);
        row("4K at 60", x, 0, 3840, 2160, 60);
        row("4K at 30", x, 1, 3840, 2160, 30);
        row("61 hertz", x, 2, 750, 800, 61);
        row("found first", x, 3, 1000, 600, 60);
        row("found second", x, 4, 600, 1000, 60);
        row("found third", x, 5, 800, 750, 60);
        Due.due("10 as many", x.mode(6, 0), -2);
    }

    private static void leftOutByRange() {
        // 148.5 MHz, 60 Hz, 67.5 (67) kHz
        int[][] ranges = {{60, 60, 67, 67, 15}, {61, 75, 67, 67, 15}, {50, 59, 67, 67, 15},
            {60, 60, 68, 80, 15}, {60, 60, 30, 66, 15}, {60, 60, 67, 67, 14}, {0, 255, 0, 255, 0}};
        for (int i = 0; i < ranges.length; i++) {
            ScreenTalk x = new ScreenTalk();
            int modes = new Blocks(0).detailed(54, 14850, FULL_HD).range(72, ranges[i]).loadSealed(x);
            Due.due("10 range " + i, modes, i == 0 ? 1 : 0);
            Due.due("10 left out by range " + i, x.told(23), i == 0 ? 0 : 1);
        }
        ScreenTalk x = new ScreenTalk();
        Due.due("10 CLOCK just above RANGE's", new Blocks(0).detailed(54, 15001, FULL_HD)
            .range(72, 0, 255, 0, 255, 15).loadSealed(x), 0);
        Due.due("10 lines of one pixel", new Blocks(0).detailed(54, 10, 1, 0, 0, 0, 2000, 0, 0, 0)
            .range(72, 50, 50, 100, 100, 1).loadSealed(x), 1);
        Due.due("10 CLOCK just as RANGE's", new Blocks(0).detailed(54, 15000, FULL_HD)
            .range(72, 0, 255, 0, 255, 15).loadSealed(x), 1);
        Due.due("10 the latest RANGE", new Blocks(0).detailed(54, 15000, FULL_HD)
            .range(72, 0, 1, 0, 1, 1).range(90, 0, 255, 0, 255, 15).loadSealed(x), 1);
    }

    private static void leftOutByMost() {
        ScreenTalk x = new ScreenTalk();
        Blocks blocks = new Blocks(1).detailed(54, 15000, FULL_HD).data(1, 0x67, 3, 12, 0, 0, 0, 0, 30);
        Due.due("10 CLOCK just as MOST", blocks.loadSealed(x), 1);
        blocks.data(1, 0x67, 3, 12, 0, 0, 0, 0, 29);
        Due.due("10 CLOCK above MOST", blocks.loadSealed(x), 0);
        Due.due("10 left out by MOST", x.told(24), 1);
        blocks.data(1, 0x67, 3, 12, 0, 0, 0, 0, 0);
        Due.due("10 no MOST", blocks.loadSealed(x), 1);
    }

    private static void leftOutInOrder() {
        ScreenTalk x = new ScreenTalk();
        // of four like ones: broken and interlaced, interlaced and out of range, out of range and above MOST, MOST
        Blocks blocks = new Blocks(1).range(54, 0, 100, 0, 255, 20).data(1, 0x67, 3, 12, 0, 0, 0, 0, 10)
            .detailed(72, 14850, 1920, 280, 200, 200, 1080, 45, 4, 5).set(72 + 17, 0x80)
            .detailed(90, 30000, FULL_HD).set(90 + 17, 0x80).detailed(108, 30000, FULL_HD)
            .detailed(128 + 12, 14850, FULL_HD).detailed(128 + 30, 5000, 800, 200, 0, 0, 500, 500, 0, 0)
            .detailed(128 + 48, 5000, 800, 200, 0, 0, 500, 500, 0, 0);
        Due.due("10 one is left", blocks.loadSealed(x), 1);
        int[] out = {1, 0, 1, 1, 1, 1, 0};
        for (int why = 0; why < out.length; why++) {
            Due.due("10 left out by " + why, x.told(20 + why), out[why]);
        }
    }

    private static void forty() {
        ScreenTalk x = new ScreenTalk();
        Blocks blocks = new Blocks(3);
        for (int d = 0; d < 4; d++) {
            blocks.detailed(54 + 18 * d, 3000 + 50 * d, 800, 200, 0, 0, 300, 200, 0, 0);
        }
        int[] codes = {0x4F, 1, 2, 3, 4, 16, 17, 18, 19, 31, 32, 63, 95, 97, 97, 5};
        blocks.data(1, codes);
        for (int d = 0; d < 5; d++) {
            blocks.detailed(128 + 20 + 18 * d, 4000 + 50 * d, 800, 200, 0, 0, 300, 200, 0, 0);
        }
        for (int e = 2; e <= 3; e++) {
            blocks.set(128 * e + 2, 4);
            for (int d = 0; d < 6; d++) {
                blocks.detailed(128 * e + 4 + 18 * d, 1000 * e + 3000 + 50 * d, 800, 200, 0, 0, 300, 200, 0, 0);
            }
        }
        // 21 detailed ones, 11 codes, 8 standard ones, then none of those that are established
        for (int s = 0; s < 8; s++) {
            blocks.set(38 + 2 * s, 100, s);
        }
        blocks.set(35, 255, 255);
        Due.due("10 forty", blocks.loadSealed(x), 40);
        Due.due("10 left out as there are 40", x.told(26), 6);
        Due.due("10 left out as found ahead", x.told(25), 3);
        Due.due("10 unknown", x.told(21), 1);
        Due.due("10 the last", x.mode(39, 1), 300);
        Due.due("10 no more", x.mode(40, 1), -2);
        // one that is like one of the 40 is left out by that
        blocks.set(52, 100, 6).set(36, 0).set(35, 1).set(128 + 4 + 15, 4);
        blocks.loadSealed(x);
        Due.due("10 39 and one", x.told(16), 40);
        Due.due("10 found ahead", x.told(25), 5);
    }

    private static void text(ScreenTalk x, int i, String want) {
        for (int k = 0; k < want.length(); k++) {
            Due.due("11 called(" + i + ", " + k + ")", x.called(i, k), want.charAt(k));
        }
        Due.due("11 behind " + want, x.called(i, want.length()), -1);
    }

    private static void called() {
        ScreenTalk x = new ScreenTalk();
        Due.due("11 none", x.called(0, 0), -2);
        Due.due("11 none ahead of k", x.called(0, -1), -2);
        new Blocks(1).detailed(54, 65535, 1, 0, 0, 0, 1, 0, 0, 0).data(1, 0x43, 97, 63, 17).loadSealed(x);
        text(x, 0, "1x1@655350000!");
        text(x, 1, "3840x2160@60");
        text(x, 2, "1920x1080@120");
        text(x, 3, "720x576@50");
        Due.due("11 k below 0", x.called(0, -1), -3);
        Due.due("11 k far away", x.called(0, Integer.MAX_VALUE), -1);
        Due.due("11 none such", x.called(4, 0), -2);
        Due.due("11 i below 0", x.called(-1, 0), -2);
    }

    private static void find() {
        ScreenTalk x = new ScreenTalk();
        Due.due("12 of none", x.find(1920, 1080, 60), -1);
        new Blocks(1).detailed(54, 2500, 640, 160, 1, 1, 480, 45, 1, 1).data(1, 0x43, 16, 31, 97).loadSealed(x);
        Due.due("12 find", x.find(640, 480, 60), 0);
        Due.due("12 find", x.find(3840, 2160, 60), 1);
        Due.due("12 find", x.find(1920, 1080, 60), 2);
        Due.due("12 find", x.find(1920, 1080, 50), 3);
        Due.due("12 other HERTZ", x.find(1920, 1080, 59), -1);
        Due.due("12 other H", x.find(1919, 1080, 60), -1);
        Due.due("12 other V", x.find(1920, 1081, 60), -1);
        Due.due("12 wild", x.find(-1, Integer.MIN_VALUE, Integer.MAX_VALUE), -1);
    }
}
