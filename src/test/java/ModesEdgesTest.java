/** The edges of MODES: which are found, which are left out by what, in which order, and how they are called. */
public final class ModesEdgesTest {
    private static final int[] FULL_HD = {1920, 280, 88, 44, 1080, 45, 4, 5};
    private static final int[] WIDE_OPEN = {0, 255, 0, 255, 255};

    public static void main(String[] args) {
        standardNone();
        standardSizes();
        standardHertz();
        standardPlaces();
        establishedBits();
        unknownCodes();
        halfIsUp();
        hertzOf0();
        hertzInRange();
        linesInRange();
        clockInRange();
        clockOfMost();
        leftOutByTheFirst();
        likeOnes();
        likeOneThatWasLeftOut();
        foundInThisOrder();
        forty();
        likeOneOfForty();
        preferredIfItIsAMode();
        preferredOfTheFirstDescriptor();
        numbered();
        modeNumbers();
        thousandths();
        calledBytes();
        findAll();
        Due.end();
    }

    private static ScreenTalk loaded(Blocks blocks) {
        ScreenTalk x = new ScreenTalk();
        int modes = blocks.loadSealed(x);
        Due.due("the bytes are taken: fault(0)", x.fault(0), 0);
        Due.due("load answers how many MODES", x.told(16), modes);
        return x;
    }

    /** "none, if the first is 0, or both are 1". */
    private static void standardNone() {
        for (int first : new int[] {0, 1, 2, 254, 255}) {
            for (int second : new int[] {0, 1, 2, 63, 64, 65, 255}) {
                boolean none = first == 0 || first == 1 && second == 1;
                Say.due("STANDARD " + first + ", " + second, loaded(new Blocks(0).set(38, first, second)),
                    "told(16)", none ? 0 : 1, "mode(0, 6)", none ? -2 : 3);
            }
        }
    }

    /** "H is 8 times (the first and 31), V of H by bits 7, 6 of the second: .. (cut)": every H there is. */
    private static void standardSizes() {
        for (int first = 1; first <= 255; first++) {
            for (int shape = 0; shape < 4; shape++) {
                int h = 248 + 8 * first;
                double v = h * new double[] {0.625, 0.75, 0.8, 0.5625}[shape];
                Say.due("STANDARD " + first + " of shape " + shape, loaded(new Blocks(0).set(38, first, 64 * shape)),
                    "mode(0, 0)", h, "mode(0, 1)", (int) Math.floor(v + 0.001));
            }
        }
        Say.due("the least", loaded(new Blocks(0).set(38, 1, 0xC0)), "mode(0, 0)", 256, "mode(0, 1)", 144);
        Say.due("264 by 9 of 16 is 148.5", loaded(new Blocks(0).set(38, 2, 0xC0)), "mode(0, 0)", 264, "mode(0, 1)", 148);
        Say.due("256 by 4 of 5 is 204.8", loaded(new Blocks(0).set(38, 1, 0x80)), "mode(0, 1)", 204);
        Say.due("the greatest", loaded(new Blocks(0).set(38, 255, 0x80)), "mode(0, 0)", 2288, "mode(0, 1)", 1830);
    }

    /** "HERTZ 60 and its bits 5 to 0": 60 to 123. */
    private static void standardHertz() {
        for (int more = 0; more < 64; more++) {
            ScreenTalk x = loaded(new Blocks(0).set(38, 0x81, 0x80 + more));
            Say.due("STANDARD of " + (60 + more), x, "mode(0, 3)", x.formula(0, 1280, 1024, 60 + more, 8),
                "mode(0, 5)", 1024 + x.formula(0, 1280, 1024, 60 + more, 5), "mode(0, 2)", 60 + more);
        }
    }

    /** "b38 to b53 STANDARD, eight of two bytes". */
    private static void standardPlaces() {
        for (int at = 37; at <= 54; at++) {
            Blocks blocks = new Blocks(0).set(at, 0x81);
            // at an odd place it is the second byte of one whose first is 0
            boolean first = at >= 38 && at <= 52 && at % 2 == 0;
            Say.due("b" + at, loaded(blocks), "told(16)", first ? 1 : 0);
        }
        Blocks eight = new Blocks(0);
        for (int s = 0; s < 8; s++) {
            eight.set(38 + 2 * s, 10 + s, 0);
        }
        Say.due("all eight", loaded(eight), "told(16)", 8, "mode(0, 0)", 248 + 8 * 17, "mode(7, 0)", 248 + 80);
    }

    /** "b35, b36 ESTABLISHED: bits": all others tell nothing. */
    private static void establishedBits() {
        Say.due("all bits", loaded(new Blocks(0).set(34, 255, 255, 255, 255)), "told(16)", 6);
        Say.due("the bits of none", loaded(new Blocks(0).set(34, 255, 0xDA, 0xF4, 255)), "told(16)", 0);
        Say.due("bits 5, 2, 0; 3, 1, 0", loaded(new Blocks(0).set(35, 0x25, 0x0B)), "told(16)", 6, "mode(0, 0)", 1280,
            "mode(1, 2)", 75, "mode(2, 2)", 60, "mode(3, 0)", 800, "mode(4, 2)", 75, "mode(5, 2)", 59, "mode(5, 6)", 4);
    }

    /** "All others are UNKNOWN." */
    private static void unknownCodes() {
        String known = " 1 2 3 4 16 17 18 19 31 32 63 95 97 ";
        for (int code = 0; code < 256; code++) {
            boolean so = known.contains(" " + code % 128 + " ");
            Say.due("code " + code, loaded(new Blocks(1).data(1, 0x41, code)), "told(8)", 1, "told(21)", so ? 0 : 1,
                "told(16)", so ? 1 : 0);
        }
    }

    /** "HERTZ of a MODE: CLOCK times 1000 by both wholes, to the nearest (half: up)." */
    private static void halfIsUp() {
        // 1000 by 1000: 10 kHz are a hundredth of HERTZ
        int[][] clocks = {{5949, 59}, {5950, 60}, {6000, 60}, {6049, 60}, {6050, 61}};
        for (int[] c : clocks) {
            Say.due("HERTZ of " + c[0], loaded(new Blocks(0).detailed(54, c[0], 800, 200, 0, 0, 600, 400, 0, 0)),
                "mode(0, 2)", c[1], "mode(0, 8)", c[0] * 10, "find(800, 600, " + c[1] + ")", 0);
        }
    }

    /** 10,000 by 20,000 is a half, by 20,001 less. */
    private static void hertzOf0() {
        Say.due("half of one", loaded(new Blocks(0).detailed(54, 1, 200, 0, 0, 0, 100, 0, 0, 0)), "mode(0, 2)", 1,
            "mode(0, 8)", 500);
        ScreenTalk x = loaded(new Blocks(0).detailed(54, 1, 59, 0, 0, 0, 339, 0, 0, 0));
        Say.due("less than half of one", x, "mode(0, 2)", 0, "mode(0, 8)", 499, "find(59, 339, 0)", 0, "called(0, 7)", 48,
            "called(0, 8)", 33);
        x = loaded(new Blocks(0).detailed(54, 1, 4095, 4095, 0, 0, 4095, 4095, 0, 0));
        Say.due("the slowest", x, "mode(0, 2)", 0, "mode(0, 8)", 0, "mode(0, 4)", 8190, "mode(0, 5)", 8190);
        Say.due("in a RANGE from 0", loaded(new Blocks(0).detailed(54, 1, 59, 0, 0, 0, 339, 0, 0, 0).range(72, WIDE_OPEN)),
            "told(16)", 1);
        Say.due("not in one from 1",
            loaded(new Blocks(0).detailed(54, 1, 59, 0, 0, 0, 339, 0, 0, 0).range(72, 1, 255, 0, 255, 255)), "told(23)", 1);
    }

    private static void ranged(String what, Blocks blocks, boolean within) {
        Say.due(what, loaded(blocks), "told(16)", within ? 1 : 0, "told(23)", within ? 0 : 1);
    }

    /** "its HERTZ .. is out of RANGE": both ends are in it; none is, if they are crossed. */
    private static void hertzInRange() {
        for (int least = 58; least <= 62; least++) {
            for (int most = 58; most <= 62; most++) {
                ranged("60 in HERTZ " + least + " to " + most,
                    new Blocks(0).detailed(54, 14850, FULL_HD).range(72, least, most, 0, 255, 255), least <= 60 && most >= 60);
            }
        }
        int[] fast = {100, 0, 0, 0, 100, 0, 0, 0};
        ranged("255 HERTZ", new Blocks(0).detailed(54, 255, fast).range(72, 255, 255, 0, 255, 1), true);
        ranged("256 HERTZ", new Blocks(0).detailed(54, 256, fast).range(72, 255, 255, 0, 255, 1), false);
        // 59.5 counts as 60, 60.49 as 60, 60.5 as 61
        int[] million = {800, 200, 0, 0, 600, 400, 0, 0};
        ranged("59.49", new Blocks(0).detailed(54, 5949, million).range(72, 60, 60, 0, 255, 255), false);
        ranged("59.5", new Blocks(0).detailed(54, 5950, million).range(72, 60, 60, 0, 255, 255), true);
        ranged("60.49", new Blocks(0).detailed(54, 6049, million).range(72, 60, 60, 0, 255, 255), true);
        ranged("60.5", new Blocks(0).detailed(54, 6050, million).range(72, 60, 60, 0, 255, 255), false);
    }

    /** "or CLOCK by its whole H (cut), is out of RANGE": 67.5 kHz count as 67. */
    private static void linesInRange() {
        for (int least = 65; least <= 69; least++) {
            for (int most = 65; most <= 69; most++) {
                ranged("67 in kHz " + least + " to " + most,
                    new Blocks(0).detailed(54, 14850, FULL_HD).range(72, 0, 255, least, most, 255), least <= 67 && most >= 67);
            }
        }
        int[] hundred = {100, 0, 0, 0, 1000, 0, 0, 0};
        ranged("99.9 kHz", new Blocks(0).detailed(54, 999, hundred).range(72, 0, 255, 100, 100, 255), false);
        ranged("100 kHz", new Blocks(0).detailed(54, 1000, hundred).range(72, 0, 255, 100, 100, 255), true);
        ranged("100.9 kHz", new Blocks(0).detailed(54, 1009, hundred).range(72, 0, 255, 100, 100, 255), true);
        ranged("101 kHz", new Blocks(0).detailed(54, 1010, hundred).range(72, 0, 255, 100, 100, 255), false);
        int[] tall = {100, 0, 0, 0, 4095, 0, 0, 0};
        ranged("255.9 kHz", new Blocks(0).detailed(54, 2559, tall).range(72, 0, 255, 255, 255, 255), true);
        ranged("256 kHz", new Blocks(0).detailed(54, 2560, tall).range(72, 0, 255, 255, 255, 255), false);
        ranged("0.9 kHz", new Blocks(0).detailed(54, 9, hundred).range(72, 0, 255, 0, 0, 255), true);
        ranged("1 kHz", new Blocks(0).detailed(54, 10, hundred).range(72, 0, 255, 0, 0, 255), false);
    }

    /** "or its CLOCK above RANGE's (if a RANGE is told)". */
    private static void clockInRange() {
        for (int tens = 1; tens <= 60; tens++) {
            int[] p = {1000, 0, 0, 0, 1000 * tens / 20 + 1, 0, 0, 0};
            ranged("CLOCK as RANGE's " + tens, new Blocks(0).detailed(54, 1000 * tens, p).range(72, 0, 255, 0, 255, tens),
                tens * 10 < 256);
        }
        ranged("14,999 of 15", new Blocks(0).detailed(54, 14999, FULL_HD).range(72, 0, 255, 0, 255, 15), true);
        ranged("15,000 of 15", new Blocks(0).detailed(54, 15000, FULL_HD).range(72, 0, 255, 0, 255, 15), true);
        ranged("15,001 of 15", new Blocks(0).detailed(54, 15001, FULL_HD).range(72, 0, 255, 0, 255, 15), false);
        ranged("the least of 0", new Blocks(0).detailed(54, 1, FULL_HD).range(72, 0, 255, 0, 255, 0), false);
        int[] great = {4000, 0, 0, 0, 4000, 0, 0, 0};
        ranged("655,350 of 66", new Blocks(0).detailed(54, 65535, great).range(72, 0, 255, 0, 255, 66), true);
        ranged("655,350 of 65", new Blocks(0).detailed(54, 65535, great).range(72, 0, 255, 0, 255, 65), false);
        Say.due("no RANGE is told", loaded(new Blocks(0).detailed(54, 65535, 1, 0, 0, 0, 1, 0, 0, 0)), "told(16)", 1,
            "told(23)", 0);
    }

    private static Blocks most(Blocks blocks, int seventh) {
        return blocks.data(1, 0x67, 3, 12, 0, 0, 0, 0, seventh);
    }

    /** "4 CLOCK above MOST (if it isn't 0)". */
    private static void clockOfMost() {
        int[][] clocks = {{14999, 30, 1}, {15000, 30, 1}, {15001, 30, 0}, {500, 1, 1}, {501, 1, 0}, {65535, 131, 0},
            {65535, 132, 1}, {65535, 255, 1}, {65535, 0, 1}, {1, 0, 1}, {1, 1, 1}};
        for (int[] c : clocks) {
            Say.due("CLOCK " + c[0] + " of MOST " + c[1], loaded(most(new Blocks(1), c[1]).detailed(54, c[0], FULL_HD)),
                "told(16)", c[2], "told(24)", 1 - c[2]);
        }
        // 25,175 kHz of code 1
        Say.due("25,175 above 25,000", loaded(new Blocks(1).data(1, 0x67, 3, 12, 0, 0, 0, 0, 5, 0x41, 1)), "told(24)", 1);
        Say.due("25,175 below 30,000", loaded(new Blocks(1).data(1, 0x67, 3, 12, 0, 0, 0, 0, 6, 0x41, 1)), "told(16)", 1);
        Say.due("a MOST behind it", loaded(new Blocks(2).data(1, 0x41, 1).data(2, 0x67, 3, 12, 0, 0, 0, 0, 5)),
            "told(24)", 1);
    }

    /** "One is left out, by the first that is so": every two reasons that one MODE can have at once. */
    private static void leftOutByTheFirst() {
        int[][] pairs = {{0, 2}, {0, 3}, {0, 4}, {0, 5}, {2, 3}, {2, 4}, {2, 5}, {3, 4}, {3, 5}, {4, 5}};
        for (int[] pair : pairs) {
            for (int only : new int[] {-1, 0, 1}) {
                int[] why = only < 0 ? pair : new int[] {pair[only]};
                ScreenTalk x = loaded(one(why));
                Due.due("the other one stays", x.told(16), 1);
                for (int k = 0; k < 7; k++) {
                    Say.due("left out by " + why[0] + " ahead of others", x, "told(" + (20 + k) + ")", k == why[0] ? 1 : 0);
                }
            }
        }
    }

    /** 1000x500 of 60, and one that is to be left out by each of these. */
    private static Blocks one(int... why) {
        boolean[] so = new boolean[7];
        for (int k : why) {
            so[k] = true;
        }
        Blocks blocks = most(new Blocks(1), 20).range(54, 50, 70, 10, 200, 15)
            .detailed(72, 3630, 1000, 100, 0, 0, 500, 50, 0, 0);
        return another(blocks, 90, so[5] ? 1000 : 900, so);
    }

    /** Hx500 of 60: of 162 MHz above RANGE's 150, of 108 MHz above MOST's 100, of 36 MHz; BROKEN by 126 of 100 lines. */
    private static Blocks another(Blocks blocks, int at, int h, boolean... so) {
        int wholeH = so[3] ? 4500 : so[4] ? 3000 : 1000;
        int lines = so[0] ? 63 : 0;
        blocks.detailed(at, wholeH / 10 * 36, h, wholeH - h, 0, 0, 500, 100, lines, lines);
        return blocks.set(at + 17, so[2] ? 128 : 0);
    }

    /** "5 one of like H, V, HERTZ that wasn't left out was found ahead": all three are like. */
    private static void likeOnes() {
        int[] p = {800, 200, 0, 0, 600, 400, 0, 0};
        Say.due("like ones", loaded(new Blocks(0).detailed(54, 6000, p).detailed(72, 6049, p)), "told(16)", 1,
            "told(25)", 1, "mode(0, 3)", 60000);
        Say.due("another HERTZ", loaded(new Blocks(0).detailed(54, 6000, p).detailed(72, 6050, p)), "told(16)", 2);
        Say.due("another H", loaded(new Blocks(0).detailed(54, 6000, p)
            .detailed(72, 6000, 801, 199, 0, 0, 600, 400, 0, 0)), "told(16)", 2);
        Say.due("another V", loaded(new Blocks(0).detailed(54, 6000, p)
            .detailed(72, 6000, 800, 200, 0, 0, 601, 399, 0, 0)), "told(16)", 2);
        Say.due("other wholes", loaded(new Blocks(0).detailed(54, 6000, p)
            .detailed(72, 12000, 800, 1200, 0, 0, 600, 400, 0, 0)), "told(16)", 1, "mode(0, 4)", 1000);
        Say.due("of all five kinds", loaded(new Blocks(1).detailed(54, 2350, 640, 160, 48, 32, 480, 14, 3, 4)
            .set(35, 0x20).set(38, 0x31, 0x40, 0x31, 0x40).data(1, 0x42, 1, 1)
            .detailed(135, 2350, 640, 160, 48, 32, 480, 14, 3, 4)),
            "told(16)", 2, "told(25)", 5, "mode(0, 6)", 0, "mode(1, 6)", 2, "mode(1, 2)", 60, "mode(0, 2)", 59);
    }

    /** "that wasn't left out": one that was counts for nothing. */
    private static void likeOneThatWasLeftOut() {
        int[] p = {800, 200, 0, 0, 600, 400, 0, 0};
        Say.due("the first is INTERLACED", loaded(new Blocks(0).detailed(54, 6000, p).set(71, 128).detailed(72, 6010, p)),
            "told(16)", 1, "told(22)", 1, "told(25)", 0, "mode(0, 3)", 60100, "mode(0, 7)", 0);
        Say.due("the first is BROKEN", loaded(new Blocks(0).detailed(54, 6000, 800, 200, 201, 0, 600, 400, 0, 0)
            .detailed(72, 6010, p)), "told(16)", 1, "told(20)", 1, "told(25)", 0, "mode(0, 3)", 60100);
        Say.due("the first is out of RANGE", loaded(new Blocks(0).detailed(54, 12000, 800, 1200, 0, 0, 600, 400, 0, 0)
            .detailed(72, 6010, p).range(90, 0, 255, 0, 255, 7)), "told(16)", 1, "told(23)", 1, "told(25)", 0);
        Say.due("the first is above MOST", loaded(most(new Blocks(1), 13)
            .detailed(54, 12000, 800, 1200, 0, 0, 600, 400, 0, 0).detailed(72, 6010, p)), "told(16)", 1, "told(24)", 1,
            "told(25)", 0);
    }

    /** "in this order they are found: 0 DETAILED of the BASE, 1 of EXTENSIONS, 2 by CODES, 3 STANDARD, 4 ESTABLISHED". */
    private static void foundInThisOrder() {
        int[] hd = {1280, 370, 110, 40, 720, 30, 5, 5};
        Say.due("0 ahead of 1", loaded(new Blocks(1).set(130, 4).detailed(132, 7425, hd).detailed(108, 7426, hd)),
            "told(25)", 1, "mode(0, 6)", 0, "mode(0, 3)", 74260);
        Say.due("1 ahead of 2", loaded(new Blocks(1).data(1, 0x41, 4).detailed(134, 7426, hd)), "told(25)", 1,
            "mode(0, 6)", 1, "mode(0, 3)", 74260);
        Say.due("1 of the last ahead of 2 of the first", loaded(new Blocks(2).data(1, 0x41, 4).set(258, 4)
            .detailed(260, 7426, hd)), "told(25)", 1, "mode(0, 6)", 1);
        Say.due("2 ahead of 3", loaded(new Blocks(1).set(38, 0xD1, 0xC0).data(1, 0x41, 16)), "told(25)", 1,
            "mode(0, 6)", 2, "mode(0, 3)", 148500);
        Say.due("3 ahead of 4", loaded(new Blocks(0).set(35, 1).set(52, 0x45, 0x40)), "told(25)", 1, "mode(0, 6)", 3);
        Say.due("4 alone", loaded(new Blocks(0).set(35, 1)), "told(25)", 0, "mode(0, 6)", 4, "mode(0, 3)", 35500);
    }

    /** 22 DETAILED ones of like size, 11 by CODES; STANDARD ones come to it. */
    private static Blocks many(int standard) {
        Blocks blocks = new Blocks(3).data(1, 0x4B, 1, 2, 4, 16, 17, 19, 31, 32, 63, 95, 97).set(258, 4).set(386, 4);
        int[] starts = {54, 128 + 16, 256 + 4, 384 + 4};
        int[] places = {4, 6, 6, 6};
        int hertz = 20;
        for (int s = 0; s < 4; s++) {
            for (int d = 0; d < places[s]; d++) {
                blocks.detailed(starts[s] + 18 * d, 50 * hertz, 800, 200, 0, 0, 300, 200, 0, 0);
                hertz++;
            }
        }
        for (int s = 0; s < standard; s++) {
            blocks.set(38 + 2 * s, 100, s);
        }
        return blocks;
    }

    /** "6 there are 40": the 40th is one, the 41st isn't. */
    private static void forty() {
        Say.due("33", loaded(many(0)), "told(16)", 33, "told(26)", 0, "mode(32, 0)", 800, "mode(33, 0)", -2);
        Say.due("39", loaded(many(6)), "told(16)", 39, "told(26)", 0, "mode(38, 0)", 800, "mode(39, 0)", -2);
        Say.due("40", loaded(many(7)), "told(16)", 40, "told(26)", 0, "mode(39, 0)", 800, "mode(40, 0)", -2);
        Say.due("41", loaded(many(8)), "told(16)", 40, "told(26)", 1, "mode(39, 0)", 800, "mode(40, 0)", -2,
            "find(1048, 655, 66)", 9, "find(1048, 655, 67)", -1);
        Say.due("the 41st alone", loaded(new Blocks(0).set(38, 100, 7)), "find(1048, 655, 67)", 0);
        Say.due("39 and one that is ESTABLISHED", loaded(many(6).set(36, 1)), "told(16)", 40, "told(26)", 0);
        Say.due("40 and one that is ESTABLISHED", loaded(many(7).set(36, 1)), "told(16)", 40, "told(26)", 1,
            "find(1280, 1024, 75)", -1);
        Say.due("47", loaded(many(8).set(35, 255, 255)), "told(16)", 40, "told(26)", 7);
    }

    /** "by the first that is so": 5 ahead of 6. */
    private static void likeOneOfForty() {
        Say.due("a like one behind 40", loaded(many(8).set(52, 100, 6)), "told(16)", 40, "told(25)", 1, "told(26)", 0);
        Say.due("another one behind 40", loaded(many(8).set(52, 101, 6)), "told(16)", 40, "told(25)", 0, "told(26)", 1);
        // one that was left out by 6 isn't found ahead
        Say.due("two like ones behind 40", loaded(many(8).set(52, 0x61, 0x40).set(36, 8)), "told(16)", 40, "told(25)", 0,
            "told(26)", 2);
    }

    /** "PREFERRED: that of the BASE's first DESCRIPTOR, if it is a MODE." */
    private static void preferredIfItIsAMode() {
        for (int why : new int[] {-1, 0, 2, 3, 4}) {
            Blocks blocks = most(new Blocks(1), 20).range(90, 50, 70, 10, 200, 15)
                .detailed(72, 3630, 1000, 100, 0, 0, 500, 50, 0, 0);
            another(blocks, 54, 900, why == 0, false, why == 2, why == 3, why == 4);
            ScreenTalk x = loaded(blocks);
            boolean preferred = why < 0;
            Say.due("PREFERRED, were it left out by " + why, x, "told(16)", preferred ? 2 : 1,
                "mode(0, 0)", preferred ? 900 : 1000, "mode(0, 7)", preferred ? 1 : 0, "mode(1, 7)", preferred ? 0 : -2);
            if (!preferred) {
                Say.due("left out", x, "told(" + (20 + why) + ")", 1);
            }
        }
    }

    /** "that of the BASE's first DESCRIPTOR": of no later one, of no EXTENSION, of no other kind. */
    private static void preferredOfTheFirstDescriptor() {
        Say.due("the first tells a NAME", loaded(new Blocks(0).named(54, "N").detailed(72, 14850, FULL_HD)),
            "mode(0, 7)", 0, "mode(0, 6)", 0);
        Say.due("the first tells nothing", loaded(new Blocks(0).detailed(72, 14850, FULL_HD)), "mode(0, 7)", 0);
        Say.due("the first of an EXTENSION", loaded(new Blocks(1).set(130, 4).detailed(132, 14850, FULL_HD)),
            "mode(0, 7)", 0, "mode(0, 6)", 1);
        Say.due("the first of both", loaded(new Blocks(1).detailed(54, 1, FULL_HD).set(130, 4).detailed(132, 14850, FULL_HD)),
            "mode(0, 7)", 1, "mode(0, 3)", 10, "mode(1, 7)", 0);
        Say.due("by CODES, STANDARD, ESTABLISHED", loaded(new Blocks(1).data(1, 0x41, 16).set(35, 1).set(38, 0x81, 0x80)),
            "mode(0, 7)", 0, "mode(1, 7)", 0, "mode(2, 7)", 0);
    }

    /** "PREFERRED, then by H times V, the greater first, by HERTZ, the greater first, then as they were found." */
    private static void numbered() {
        Blocks blocks = new Blocks(1).set(130, 4).detailed(54, 1, 1, 0, 0, 0, 1, 9, 0, 0)
            .detailed(72, 3000, 500, 500, 0, 0, 400, 600, 0, 0).detailed(90, 3000, 400, 600, 0, 0, 500, 500, 0, 0)
            .detailed(108, 3050, 250, 750, 0, 0, 800, 200, 0, 0)
            .detailed(132, 3000, 1000, 0, 0, 0, 200, 800, 0, 0).detailed(150, 3000, 667, 333, 0, 0, 300, 700, 0, 0)
            .detailed(168, 3000, 199, 801, 0, 0, 1005, 0, 0, 0).detailed(186, 3000, 4095, 0, 0, 0, 4095, 0, 0, 0);
        int[] order = {1, 4095, 667, 250, 500, 400, 1000, 199};
        ScreenTalk x = loaded(blocks);
        for (int i = 0; i < order.length; i++) {
            Say.due("MODE " + i, x, "mode(" + i + ", 0)", order[i]);
        }
        Say.due("no more", x, "mode(8, 0)", -2);
    }

    /** Promise 10: "-2: there is none such, what." */
    private static void modeNumbers() {
        Say.due("10 no BLOCKS", new ScreenTalk(), "mode(0, 0)", -2, "mode(-1, 0)", -2, "mode(0, 9)", -2);
        Say.due("10 no MODES", loaded(new Blocks(0)), "mode(0, 0)", -2, "mode(0, 8)", -2);
        ScreenTalk x = loaded(new Blocks(1).data(1, 0x42, 16, 4));
        Say.due("10 none such", x, "mode(1, 0)", 1280, "mode(2, 0)", -2, "mode(-1, 0)", -2, "mode(MIN, 0)", -2,
            "mode(MAX, 0)", -2);
        Say.due("10 what", x, "mode(0, 8)", 60000, "mode(0, 9)", -2, "mode(0, -1)", -2, "mode(0, MIN)", -2,
            "mode(0, MAX)", -2);
        new Blocks(1).data(1, 0x41, 16).loadSealed(x);
        Say.due("10 of fewer MODES", x, "mode(0, 0)", 1920, "mode(1, 0)", -2);
        new Blocks(0).loadSealed(x);
        Say.due("10 of none", x, "mode(0, 0)", -2);
    }

    /** Promise 10: "the greatest int, if they are more": 655,350,000,000 by 305 are, by 306 aren't. */
    private static void thousandths() {
        int[][] wholes = {{1, Integer.MAX_VALUE}, {305, Integer.MAX_VALUE}, {306, 2141666666}, {4095, 160036630}};
        for (int[] w : wholes) {
            Say.due("10 thousandths by " + w[0], loaded(new Blocks(0).detailed(54, 65535, w[0], 0, 0, 0, 1, 0, 0, 0)),
                "mode(0, 8)", w[1]);
        }
        Say.due("10 the greatest HERTZ", loaded(new Blocks(0).detailed(54, 65535, 1, 0, 0, 0, 1, 0, 0, 0)),
            "mode(0, 2)", 655350000);
        Say.due("10 cut", loaded(new Blocks(0).detailed(54, 2, 3, 0, 0, 0, 1, 0, 0, 0)), "mode(0, 8)", 6666666,
            "mode(0, 2)", 6667);
    }

    private static void called(ScreenTalk x, int i, String want) {
        for (int k = 0; k < want.length(); k++) {
            Say.due("11 " + want, x, "called(" + i + ", " + k + ")", (int) want.charAt(k));
        }
        Say.due("11 behind " + want, x, "called(" + i + ", " + want.length() + ")", -1, "called(" + i + ", MAX)", -1,
            "called(" + i + ", -1)", -3, "called(" + i + ", MIN)", -3);
    }

    /** Promise 11: "and a ! behind it, if it is PREFERRED. NONE: not so many; -2: there is none such; -3: k is below 0." */
    private static void calledBytes() {
        ScreenTalk x = loaded(new Blocks(1).detailed(54, 1, 4095, 4095, 0, 0, 4095, 4095, 0, 0).data(1, 0x42, 16, 63));
        called(x, 0, "4095x4095@0!");
        called(x, 1, "1920x1080@120");
        called(x, 2, "1920x1080@60");
        Say.due("11 none such", x, "called(3, 0)", -2, "called(-1, 0)", -2, "called(MAX, 0)", -2, "called(MIN, 0)", -2);
        called(loaded(new Blocks(0).detailed(54, 65535, 1, 0, 0, 0, 1, 0, 0, 0)), 0, "1x1@655350000!");
        called(loaded(new Blocks(0).detailed(72, 65535, 10, 0, 0, 0, 9, 0, 0, 0)), 0, "10x9@7281667");
        Say.due("11 no BLOCKS", new ScreenTalk(), "called(0, 0)", -2, "called(0, -1)", -2);
    }

    /** Promise 12: "The MODE of H, V, HERTZ. NONE." */
    private static void findAll() {
        ScreenTalk x = loaded(many(8));
        for (int i = 0; i < 40; i++) {
            Due.due("12 find of MODE " + i, x.find(x.mode(i, 0), x.mode(i, 1), x.mode(i, 2)), i);
        }
        Say.due("12 NONE", x, "find(1920, 1080, 61)", -1, "find(1920, 1081, 60)", -1, "find(1919, 1080, 60)", -1,
            "find(0, 0, 0)", -1, "find(MIN, MIN, MIN)", -1, "find(MAX, MAX, MAX)", -1, "find(-1, -1, -1)", -1);
        new Blocks(0).loadSealed(x);
        Say.due("12 none is left", x, "find(1920, 1080, 60)", -1);
    }
}
