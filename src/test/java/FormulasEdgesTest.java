/** The edges of the FORMULAS: what they take, where they cut, what has room in a DESCRIPTOR, what a link carries. */
public final class FormulasEdgesTest {
    public static void main(String[] args) {
        sizesTaken();
        kindsAndWhats();
        firstCode();
        cutToAMultipleOf8();
        syncByShape();
        syncByTheFirst();
        plainBlankAtLeast();
        narrowBlankAtLeast();
        linesAreCutAndOneMore();
        plainClockIsCut();
        narrowClockIsCut();
        thousandthsAreCut();
        greatestOfAll();
        descriptorNumbers();
        frontHasRoom();
        clockHasRoom();
        descriptorClockIsCut();
        fastestOfRoom();
        fastestAtItsEnds();
        fastestNumbers();
        Due.end();
    }

    private static String formula(int kind, int h, int v, int hertz, int what) {
        return "formula(" + kind + ", " + h + ", " + v + ", " + hertz + ", " + what + ")";
    }

    private static String descriptor(int kind, int h, int v, int hertz, int k) {
        return "descriptor(" + kind + ", " + h + ", " + v + ", " + hertz + ", " + k + ")";
    }

    /** Promise 13: "of H (64 to 4,095), V (48 to 4,095), HERTZ (20 to 240)"; "-3". */
    private static void sizesTaken() {
        ScreenTalk x = new ScreenTalk();
        int[][] taken = {{64, 48, 20}, {4095, 48, 20}, {64, 4095, 20}, {64, 48, 240}, {4095, 4095, 20}, {4095, 48, 240},
            {64, 4095, 240}, {4095, 4095, 240}};
        int[][] refused = {{63, 48, 20}, {4096, 48, 20}, {64, 47, 20}, {64, 4096, 20}, {64, 48, 19}, {64, 48, 241},
            {0, 48, 20}, {64, 0, 20}, {64, 48, 0}, {-64, 48, 20}, {64, -48, 20}, {64, 48, -20}};
        for (int kind = 0; kind < 2; kind++) {
            for (int[] t : taken) {
                Say.due("13 taken", x, formula(kind, t[0], t[1], t[2], 0), kind == 0 ? t[0] / 8 * 8 : t[0],
                    formula(kind, t[0], t[1], t[2], 4), t[1]);
                Due.holds("14 taken", x.descriptor(kind, t[0], t[1], t[2], 17) != -3);
                Due.holds("15 taken", x.fastest(kind, t[0], t[1], 4, 3, 6) != -3);
            }
            for (int[] r : refused) {
                Say.due("13 refused", x, formula(kind, r[0], r[1], r[2], 0), -3, formula(kind, r[0], r[1], r[2], 9), -3,
                    descriptor(kind, r[0], r[1], r[2], 0), -3, descriptor(kind, r[0], r[1], r[2], 17), -3);
            }
            Say.due("13 far away", x, "formula(" + kind + ", MIN, 48, 20, 0)", -3, "formula(" + kind + ", MAX, 48, 20, 0)", -3,
                "formula(" + kind + ", 64, MIN, 20, 0)", -3, "formula(" + kind + ", 64, MAX, 20, 0)", -3,
                "formula(" + kind + ", 64, 48, MIN, 0)", -3, "formula(" + kind + ", 64, 48, MAX, 0)", -3);
        }
    }

    /** Promise 13: "(0 PLAIN, 1 NARROW)", "what 0 .. 9"; "-2: the formula, what". */
    private static void kindsAndWhats() {
        ScreenTalk x = new ScreenTalk();
        Say.due("13 the formula", x, "formula(0, 64, 48, 20, 1)", 160, "formula(1, 64, 48, 20, 1)", 80,
            "formula(-1, 64, 48, 20, 1)", -2, "formula(2, 64, 48, 20, 1)", -2, "formula(MIN, 64, 48, 20, 1)", -2,
            "formula(MAX, 64, 48, 20, 1)", -2);
        Say.due("13 what", x, "formula(0, 64, 48, 20, 0)", 64, "formula(0, 64, 48, 20, 9)", 18296,
            "formula(0, 64, 48, 20, -1)", -2, "formula(0, 64, 48, 20, 10)", -2, "formula(0, 64, 48, 20, MIN)", -2,
            "formula(0, 64, 48, 20, MAX)", -2);
    }

    /** "-2: the formula, what; -3.": the first that the call tells comes first. */
    private static void firstCode() {
        ScreenTalk x = new ScreenTalk();
        Say.due("13 -2 ahead of -3", x, "formula(2, 63, 47, 19, 0)", -2, "formula(0, 63, 47, 19, 10)", -2,
            "formula(-1, 63, 48, 20, -1)", -2, "formula(1, 64, 48, 241, 10)", -2);
        Say.due("14 -2 ahead of -3", x, "descriptor(2, 63, 47, 19, 0)", -2, "descriptor(0, 63, 47, 19, 18)", -2,
            "descriptor(1, 64, 48, 241, -1)", -2);
        // 4095x4095 of 240 has no room
        Say.due("14 -2 ahead of -5", x, "descriptor(2, 4095, 4095, 240, 0)", -2, "descriptor(0, 4095, 4095, 240, 18)", -2,
            "descriptor(0, 4095, 4095, 240, -1)", -2, "descriptor(0, 4095, 4095, 240, 17)", -5);
        Say.due("14 -3 ahead of -5", x, "descriptor(0, 4096, 4095, 240, 0)", -3, "descriptor(0, 4095, 4096, 240, 0)", -3,
            "descriptor(0, 4095, 4095, 241, 0)", -3, "descriptor(1, 4095, 4095, 240, 0)", -5);
        Say.due("15 -2 ahead of -3", x, "fastest(2, 63, 47, 3, 4, 7)", -2, "fastest(-1, 64, 48, 1, 0, 7)", -2);
        Say.due("15 -3 ahead of NONE", x, "fastest(0, 4095, 4095, 1, 0, 12)", -1, "fastest(0, 4095, 4095, 1, 0, 13)", -3,
            "fastest(0, 4095, 4095, 1, -1, 12)", -3, "fastest(0, 4095, 4095, 0, 0, 12)", -3,
            "fastest(0, 4095, 4096, 1, 0, 12)", -3, "fastest(0, 4096, 4095, 1, 0, 12)", -3,
            "fastest(2, 4095, 4095, 1, 0, 12)", -2);
    }

    /** "H is cut to a multiple of 8"; NARROW: "H as it is". */
    private static void cutToAMultipleOf8() {
        ScreenTalk x = new ScreenTalk();
        int[][] cut = {{64, 64}, {65, 64}, {71, 64}, {72, 72}, {79, 72}, {80, 80}, {4087, 4080}, {4088, 4088}, {4095, 4088}};
        for (int[] c : cut) {
            Say.due("cut", x, formula(0, c[0], 500, 60, 0), c[1], formula(1, c[0], 500, 60, 0), c[0],
                formula(0, c[0], 500, 60, 8), x.formula(0, c[1], 500, 60, 8));
        }
        Say.due("the shape is that of the cut one", x, "formula(0, 1287, 720, 60, 7)", 5, "formula(0, 1288, 720, 60, 7)", 10,
            "formula(0, 1279, 720, 60, 7)", 10, "formula(0, 1280, 720, 60, 7)", 5);
    }

    /** "4, if H is 8 times (V times 4 by 24, cut); 5: ..; else 10": H as it is due, 8 less and 8 more, of every V. */
    private static void syncByShape() {
        int[][] shapes = {{4, 24, 4}, {16, 72, 5}, {16, 80, 6}, {5, 32, 7}, {15, 72, 7}};
        for (int v = 48; v <= 4095; v += v < 130 ? 1 : 97) {
            ScreenTalk x = new ScreenTalk();
            for (int[] s : shapes) {
                int due = v * s[0] / s[1];
                for (int h8 = Math.max(8, due - 1); h8 <= Math.min(511, due + 1); h8++) {
                    int want = 10;
                    for (int k = 4; k >= 0; k--) {
                        want = h8 == v * shapes[k][0] / shapes[k][1] ? shapes[k][2] : want;
                    }
                    Say.due("V SYNC", x, formula(0, 8 * h8, v, 60, 7), want);
                }
            }
        }
        Say.due("by hand", new ScreenTalk(), "formula(0, 640, 480, 60, 7)", 4, "formula(0, 648, 480, 60, 7)", 10,
            "formula(0, 632, 480, 60, 7)", 10, "formula(0, 848, 480, 60, 7)", 5, "formula(0, 856, 480, 60, 7)", 10,
            "formula(0, 840, 480, 60, 7)", 10, "formula(0, 768, 480, 60, 7)", 6, "formula(0, 776, 480, 60, 7)", 10,
            "formula(0, 600, 480, 60, 7)", 7, "formula(0, 592, 480, 60, 7)", 10, "formula(0, 800, 480, 60, 7)", 7,
            "formula(0, 792, 480, 60, 7)", 10, "formula(0, 808, 480, 60, 7)", 10);
    }

    /** "by the first that is so": small V whose H is that of two shapes. */
    private static void syncByTheFirst() {
        Say.due("two shapes", new ScreenTalk(), "formula(0, 64, 53, 60, 7)", 4, "formula(0, 80, 48, 60, 7)", 5,
            "formula(0, 80, 50, 60, 7)", 6, "formula(0, 184, 115, 60, 7)", 6);
    }

    /** "V BLANK: LINES, but V SYNC and 9 at least": of each V SYNC LINES of one less, as many, one more. */
    private static void plainBlankAtLeast() {
        int[][] rows = {{560, 422, 4, 13}, {560, 423, 4, 13}, {608, 458, 4, 13}, {608, 459, 4, 14},
            {808, 458, 5, 14}, {816, 459, 5, 14}, {872, 493, 5, 14}, {872, 494, 5, 15},
            {784, 493, 6, 15}, {784, 494, 6, 15}, {840, 528, 6, 15}, {840, 529, 6, 16},
            {656, 528, 7, 16}, {656, 529, 7, 16}, {696, 563, 7, 16}, {704, 564, 7, 17},
            {880, 528, 7, 16}, {880, 529, 7, 16}, {936, 563, 7, 16}, {936, 564, 7, 17},
            {64, 634, 10, 19}, {64, 635, 10, 19}, {64, 669, 10, 19}, {64, 670, 10, 20}};
        ScreenTalk x = new ScreenTalk();
        for (int[] r : rows) {
            Say.due("V BLANK", x, formula(0, r[0], r[1], 60, 7), r[2], formula(0, r[0], r[1], 60, 5), r[3],
                formula(0, r[0], r[1], 60, 6), 3);
        }
    }

    /** "V BLANK LINES, but 15 at least, V FRONT V BLANK less 14". */
    private static void narrowBlankAtLeast() {
        ScreenTalk x = new ScreenTalk();
        int[][] rows = {{48, 15}, {493, 15}, {494, 15}, {528, 15}, {529, 16}, {563, 16}, {564, 17}};
        for (int[] r : rows) {
            Say.due("V BLANK", x, formula(1, 64, r[0], 60, 5), r[1], formula(1, 64, r[0], 60, 6), r[1] - 14,
                formula(1, 64, r[0], 60, 7), 8);
        }
    }

    /** "LINES: .., cut, and 1": 460 times 227 times 200 by 908,000 is just 23. */
    private static void linesAreCutAndOneMore() {
        for (int kind = 0; kind < 2; kind++) {
            // 460 times 572 times 197 by 909,380 is 56.99996
            Say.due("LINES", new ScreenTalk(), formula(kind, 64, 572, 197, 5), 57, formula(kind, 64, 573, 197, 5), 58);
            Say.due("LINES", new ScreenTalk(), formula(kind, 64, 226, 200, 5), 23, formula(kind, 64, 227, 200, 5), 24,
                formula(kind, 64, 228, 200, 5), 24, formula(kind, 64, 377, 125, 5), 24, formula(kind, 64, 376, 125, 5), 23);
        }
    }

    /** "HERTZ times both wholes .., by 250,000, cut, times 250": 9,000,000 is just so, 655,551,360 isn't. */
    private static void plainClockIsCut() {
        Say.due("PLAIN", new ScreenTalk(), "formula(0, 80, 606, 60, 8)", 9000, "formula(0, 80, 605, 60, 8)", 8750,
            "formula(0, 88, 606, 60, 8)", 9250, "formula(0, 240, 106, 60, 8)", 3000, "formula(0, 240, 105, 60, 8)", 2750,
            "formula(0, 4088, 3787, 40, 8)", 655500, "formula(0, 64, 48, 20, 8)", 250);
        // 22,249,920 are 80 less than 22,250,000
        Say.due("PLAIN", new ScreenTalk(), "formula(0, 624, 454, 60, 8)", 22000, "formula(0, 624, 455, 60, 8)", 22250);
    }

    /** "HERTZ times both wholes, by 1,000, cut": 1,062,000 and 2,280,999. */
    private static void narrowClockIsCut() {
        Say.due("NARROW", new ScreenTalk(), "formula(1, 64, 110, 59, 8)", 1062, "formula(1, 67, 248, 59, 8)", 2280,
            "formula(1, 64, 109, 59, 8)", 1053, "formula(1, 64, 48, 20, 8)", 181);
    }

    /** "9 thousandths of HERTZ that come out": cut. */
    private static void thousandthsAreCut() {
        // 9,000,000,000,000 by 240 times 625 is just 60,000,000
        Say.due("13 thousandths", new ScreenTalk(), "formula(0, 80, 606, 60, 9)", 60000, "formula(0, 80, 605, 60, 9)", 58426,
            "formula(1, 64, 110, 59, 9)", 59000, "formula(1, 67, 248, 59, 9)", 58974);
    }

    /** The greatest H, V, HERTZ: 4248 by 4604, 4175 by 4604, of 240. */
    private static void greatestOfAll() {
        ScreenTalk x = new ScreenTalk();
        int[][] want = {{4088, 160, 48, 32, 4095, 509, 3, 10, 4693750, 239993}, {4095, 80, 8, 32, 4095, 509, 495, 8, 4613208, 240000}};
        for (int kind = 0; kind < 2; kind++) {
            for (int what = 0; what < 10; what++) {
                Say.due("13 the greatest", x, formula(kind, 4095, 4095, 240, what), want[kind][what]);
            }
        }
    }

    /** Promise 14: "Byte k (0 to 17)"; "-2: also k". */
    private static void descriptorNumbers() {
        ScreenTalk x = new ScreenTalk();
        Say.due("14 k", x, "descriptor(0, 64, 48, 20, 0)", 25, "descriptor(0, 64, 48, 20, 17)", 0,
            "descriptor(0, 64, 48, 20, -1)", -2, "descriptor(0, 64, 48, 20, 18)", -2, "descriptor(0, 64, 48, 20, MIN)", -2,
            "descriptor(0, 64, 48, 20, MAX)", -2);
        Say.due("14 the formula", x, "descriptor(1, 64, 48, 20, 0)", 18, "descriptor(-1, 64, 48, 20, 0)", -2,
            "descriptor(2, 64, 48, 20, 0)", -2, "descriptor(MIN, 64, 48, 20, 0)", -2, "descriptor(MAX, 64, 48, 20, 0)", -2);
        // "others 0": e12 to e17
        for (int k = 12; k < 18; k++) {
            Say.due("14 others 0", x, descriptor(0, 4095, 2000, 60, k), 0, descriptor(1, 4095, 1900, 60, k), 0);
        }
        // 4095 by 48: bits 11 to 8 of H, of V BLANK 13 and 15, none of V
        Say.due("14 upper halves", x, "descriptor(1, 4095, 48, 20, 2)", 255, "descriptor(1, 4095, 48, 20, 4)", 0xF0,
            "descriptor(1, 64, 4095, 20, 5)", 255, "descriptor(1, 64, 4095, 20, 7)", 0xF0);
    }

    /** Promise 14: "-5: a part has no room in it": V FRONT 63 has, 64 hasn't. */
    private static void frontHasRoom() {
        ScreenTalk x = new ScreenTalk();
        Say.due("14 V FRONT 63", x, "formula(1, 800, 1345, 117, 6)", 63, "descriptor(1, 800, 1345, 117, 10)", 0xF8,
            "descriptor(1, 800, 1345, 117, 11)", 0x0C, "descriptor(1, 800, 1345, 117, 0)", 14640 % 256);
        Say.due("14 V FRONT 64", x, "formula(1, 800, 1363, 117, 6)", 64, "descriptor(1, 800, 1363, 117, 10)", -5,
            "descriptor(1, 800, 1363, 117, 0)", -5, "descriptor(1, 800, 1363, 117, 17)", -5);
        Say.due("14 PLAIN has 3 of as many lines", x, "formula(0, 800, 1363, 117, 5)", 78, "descriptor(0, 800, 1363, 117, 10)", 0x3A);
    }

    /** Promise 14: "-5 ..": CLOCK 655,359 has room, 655,360 hasn't; 655,250 and 655,500 of PLAIN. */
    private static void clockHasRoom() {
        ScreenTalk x = new ScreenTalk();
        Say.due("14 NARROW", x, "formula(1, 4062, 3984, 39, 8)", 655359, "descriptor(1, 4062, 3984, 39, 0)", 255,
            "descriptor(1, 4062, 3984, 39, 1)", 255, "formula(1, 4016, 3926, 40, 8)", 655360,
            "descriptor(1, 4016, 3926, 40, 0)", -5, "descriptor(1, 4016, 3926, 40, 17)", -5);
        Say.due("14 PLAIN", x, "formula(0, 4088, 3786, 40, 8)", 655250, "descriptor(0, 4088, 3786, 40, 0)", 65525 % 256,
            "descriptor(0, 4088, 3786, 40, 1)", 255, "formula(0, 4088, 3787, 40, 8)", 655500,
            "descriptor(0, 4088, 3787, 40, 0)", -5, "descriptor(0, 4088, 2500, 60, 17)", 0,
            "descriptor(0, 4088, 2501, 60, 17)", -5);
    }

    /** Promise 14: "(CLOCK by 10, cut; ..)": 1,062 and 2,280 kHz, 181 kHz. */
    private static void descriptorClockIsCut() {
        Say.due("14 cut", new ScreenTalk(), "descriptor(1, 64, 110, 59, 0)", 106, "descriptor(1, 67, 248, 59, 0)", 228,
            "descriptor(1, 64, 48, 20, 0)", 18, "descriptor(1, 64, 48, 20, 1)", 0);
    }

    /** Promise 15: "needs no more than the ROOM": a CLOCK that needs just all of it, and the next greater one. */
    private static void fastestOfRoom() {
        Say.due("15 just as ROOM", new ScreenTalk(), "formula(0, 4088, 217, 60, 8)", 60000,
            "fastest(0, 4088, 217, 1, 1, 12)", 60, "formula(1, 3920, 235, 60, 8)", 60000, "fastest(1, 3920, 235, 1, 1, 12)", 60);
        Say.due("15 just above ROOM", new ScreenTalk(), "formula(0, 4080, 1377, 60, 8)", 360250,
            "fastest(0, 4080, 1377, 2, 2, 8)", 59, "formula(1, 4048, 942, 60, 8)", 240001, "fastest(1, 4048, 942, 4, 1, 12)", 59);
    }

    /** Promise 15: "The greatest HERTZ (20 to 240)": 240 by just all of ROOM, 239; 20 by just all of it, NONE. */
    private static void fastestAtItsEnds() {
        Say.due("15 240", new ScreenTalk(), "formula(0, 4080, 99, 240, 8)", 120000, "fastest(0, 4080, 99, 1, 1, 6)", 240,
            "formula(1, 3920, 110, 240, 8)", 120000, "fastest(1, 3920, 110, 1, 1, 6)", 240,
            "fastest(0, 64, 48, 4, 3, 6)", 240, "fastest(1, 64, 48, 4, 3, 6)", 240);
        Say.due("15 239", new ScreenTalk(), "formula(0, 4072, 189, 240, 8)", 216250, "fastest(0, 4072, 189, 1, 3, 10)", 239,
            "formula(1, 1499, 99, 240, 8)", 43201, "fastest(1, 1499, 99, 1, 0, 10)", 239);
        Say.due("15 20", new ScreenTalk(), "formula(0, 4088, 1394, 20, 8)", 120000, "fastest(0, 4088, 1394, 2, 1, 12)", 20,
            "formula(1, 4024, 1447, 20, 8)", 120000, "fastest(1, 4024, 1447, 2, 1, 12)", 20);
        Say.due("15 NONE", new ScreenTalk(), "formula(0, 4088, 1397, 20, 8)", 120250, "fastest(0, 4088, 1397, 1, 1, 6)", -1,
            "formula(1, 4048, 2880, 20, 8)", 240001, "fastest(1, 4048, 2880, 4, 1, 12)", -1);
    }

    /** Promise 15: "-2: the formula; -3: H, V, the link, the DEPTH." */
    private static void fastestNumbers() {
        Say.due("15 taken", new ScreenTalk(), "fastest(0, 64, 48, 1, 0, 6)", 240, "fastest(1, 64, 48, 4, 3, 12)", 240,
            "fastest(0, 64, 48, 2, 0, 8)", 240, "fastest(0, 64, 48, 1, 3, 10)", 240, "fastest(1, 4095, 48, 4, 3, 6)", 240);
        Say.due("15 the formula", new ScreenTalk(), "fastest(-1, 64, 48, 1, 0, 6)", -2, "fastest(2, 64, 48, 1, 0, 6)", -2,
            "fastest(MIN, 64, 48, 1, 0, 6)", -2, "fastest(MAX, 64, 48, 1, 0, 6)", -2);
        Say.due("15 H, V", new ScreenTalk(), "fastest(0, 63, 48, 1, 0, 6)", -3, "fastest(0, 4096, 48, 1, 0, 6)", -3,
            "fastest(1, 64, 47, 1, 0, 6)", -3, "fastest(1, 64, 4096, 1, 0, 6)", -3, "fastest(0, MIN, 48, 1, 0, 6)", -3,
            "fastest(0, 64, MAX, 1, 0, 6)", -3);
        Say.due("15 the link", new ScreenTalk(), "fastest(0, 64, 48, 0, 0, 6)", -3, "fastest(0, 64, 48, 3, 0, 6)", -3,
            "fastest(0, 64, 48, 5, 0, 6)", -3, "fastest(0, 64, 48, 8, 0, 6)", -3, "fastest(0, 64, 48, -1, 0, 6)", -3,
            "fastest(0, 64, 48, 1, -1, 6)", -3, "fastest(0, 64, 48, 1, 4, 6)", -3, "fastest(0, 64, 48, MAX, MAX, 6)", -3);
        for (int depth = -1; depth <= 14; depth++) {
            boolean such = depth == 6 || depth == 8 || depth == 10 || depth == 12;
            Say.due("15 the DEPTH", new ScreenTalk(), "fastest(0, 64, 48, 1, 0, " + depth + ")", such ? 240 : -3);
        }
    }
}
