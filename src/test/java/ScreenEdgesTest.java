/** The edges of what bytes tell: makers, names, RANGES, DETAILED ones, DATA of EXTENSIONS, and FORGED. */
public final class ScreenEdgesTest {
    private static final int[] FULL_HD = {1920, 280, 88, 44, 1080, 45, 4, 5};

    public static void main(String[] args) {
        letters();
        widthHeightExtensions();
        toldOfOthers();
        clockOfADescriptor();
        bitByBit();
        broken();
        fourDescriptors();
        tagsOfDescriptors();
        nameLengths();
        nameSigns();
        nameOfTheLatest();
        rangeBytes();
        codesOfData();
        mostByLength();
        mostByItsBytes();
        mostOfTheLatest();
        sounds();
        dataOfNoEnd();
        eighteenBytesAheadOfB127();
        upToAClockOf0();
        detailedNumbers();
        forgedNumbers();
        forgedPlaces();
        forgedName();
        forgedClock();
        forgedBase();
        forgedBitByBit();
        forgedAlwaysHasRoom();
        ofTheLatestBlocks();
        Due.end();
    }

    private static ScreenTalk loaded(Blocks blocks) {
        ScreenTalk x = new ScreenTalk();
        int modes = blocks.loadSealed(x);
        Due.due("the bytes are taken: fault(0)", x.fault(0), 0);
        Due.due("load answers how many MODES", x.told(16), modes);
        return x;
    }

    /** Promise 6: "65 to 90; another number of 5 bits: 64 and it": 0, 1, 26, 27, 31 in each place; bit 15 is none. */
    private static void letters() {
        for (int number = 0; number < 32; number++) {
            for (int top = 0; top < 2; top++) {
                int maker = top << 15 | number << 10 | 31 - number << 5 | (number + 5) % 32;
                Say.due("6 letters of " + maker, loaded(new Blocks(0).set(8, maker >> 8, maker & 255)),
                    "told(0)", 64 + number, "told(1)", 95 - number, "told(2)", 64 + (number + 5) % 32);
            }
        }
        Say.due("6 A and Z", loaded(new Blocks(0).set(8, 4, 26)), "told(0)", 65, "told(1)", 64, "told(2)", 90);
        Say.due("6 behind Z", loaded(new Blocks(0).set(8, 0x6F, 0xFF)), "told(0)", 91, "told(1)", 95, "told(2)", 95);
    }

    /** "b21, b22 WIDTH, HEIGHT in centimetres"; "5 EXTENSIONS": 0 and 255, 0 and 3. */
    private static void widthHeightExtensions() {
        Say.due("6 the least", loaded(new Blocks(0)), "told(3)", 0, "told(4)", 0, "told(5)", 0);
        Say.due("6 the greatest", loaded(new Blocks(3).set(21, 255, 255)), "told(3)", 255, "told(4)", 255, "told(5)", 3);
        Say.due("6 b20, b23 are none", loaded(new Blocks(0).set(20, 9, 1, 2, 9)), "told(3)", 1, "told(4)", 2);
    }

    /** Promise 6: "-5: there are no BLOCKS; -2: another what (first)." */
    private static void toldOfOthers() {
        ScreenTalk x = new ScreenTalk();
        ScreenTalk y = loaded(new Blocks(0));
        for (int what = -3; what <= 30; what++) {
            boolean such = what >= 0 && what <= 16 || what >= 20 && what <= 26;
            Say.due("6 no BLOCKS", x, "told(" + what + ")", such ? -5 : -2);
            boolean range = what >= 9 && what <= 13;
            int letter = what >= 0 && what <= 2 ? 65 + what : 0;
            Say.due("6 an empty BASE", y, "told(" + what + ")", such ? range ? -1 : letter : -2);
        }
        Say.due("6 far away", y, "told(MIN)", -2, "told(MAX)", -2);
        Say.due("6 far away", x, "told(MIN)", -2, "told(MAX)", -2);
        x.load(0);
        Say.due("6 a FAULT brings no BLOCKS", x, "told(0)", -5, "told(17)", -2);
    }

    /** "CLOCK: e1 times 256 and e0, times 10 kHz. If that isn't 0 it is DETAILED". */
    private static void clockOfADescriptor() {
        int[][] clocks = {{0, 0}, {1, 0}, {255, 0}, {0, 1}, {255, 255}, {0, 255}};
        for (int[] c : clocks) {
            int clock = (c[1] * 256 + c[0]) * 10;
            ScreenTalk x = loaded(new Blocks(0).detailed(54, 1, FULL_HD).set(54, c));
            Say.due("CLOCK " + clock, x, "told(6)", clock > 0 ? 1 : 0, "detailed(0, 0)", clock > 0 ? clock : -2,
                "told(16)", clock > 0 ? 1 : 0);
        }
    }

    /** "detailed timings bit by bit": each bit alone tells its part, or nothing. */
    private static void bitByBit() {
        for (int bit = 0; bit < 144; bit++) {
            int[] e = new int[18];
            e[1] = 1;
            e[bit / 8] |= 1 << bit % 8;
            ScreenTalk x = loaded(new Blocks(0).set(108, e));
            int[] want = parts(bit / 8, bit % 8);
            for (int what = 0; what < 10; what++) {
                Say.due("bit " + bit % 8 + " of e" + bit / 8, x, "detailed(0, " + what + ")", want[what]);
            }
        }
    }

    /** The parts of a DESCRIPTOR of CLOCK 2560 and one bit more. */
    private static int[] parts(int e, int bit) {
        int[] parts = new int[10];
        int one = 1 << bit;
        parts[0] = e == 0 ? 2560 + 10 * one : e == 1 && bit > 0 ? 2560 + 2560 * one : 2560;
        int[] lower = {-1, -1, 1, 2, -1, 5, 6, -1, 3, 4};
        if (e < lower.length && lower[e] > 0) {
            parts[lower[e]] = one;
        }
        if (e == 4) {
            parts[bit >= 4 ? 1 : 2] = 256 << bit % 4;
        }
        if (e == 7) {
            parts[bit >= 4 ? 5 : 6] = 256 << bit % 4;
        }
        if (e == 10) {
            parts[bit >= 4 ? 7 : 8] = 1 << bit % 4;
        }
        if (e == 11) {
            int[] of = {8, 8, 7, 7, 4, 4, 3, 3};
            parts[of[bit]] = (bit >= 4 ? 256 : 16) << bit % 2;
        }
        parts[9] = e == 17 && bit == 7 ? 1 : 0;
        return parts;
    }

    /** "It is BROKEN, if H or V is 0, or a FRONT and its SYNC together are above the BLANK." */
    private static void broken() {
        int[][] whole = {{1, 0, 0, 0, 1, 0, 0, 0}, {1, 9, 9, 0, 1, 9, 0, 9}, {1, 9, 0, 9, 1, 9, 9, 0},
            {1, 9, 4, 5, 1, 9, 5, 4}, {256, 2046, 1023, 1023, 256, 126, 63, 63}, {4095, 4095, 1, 1, 4095, 4095, 1, 1}};
        int[][] broken = {{0, 9, 1, 1, 1, 9, 1, 1}, {1, 9, 1, 1, 0, 9, 1, 1}, {0, 0, 0, 0, 0, 0, 0, 0},
            {1, 9, 10, 0, 1, 9, 0, 0}, {1, 9, 0, 10, 1, 9, 0, 0}, {1, 9, 5, 5, 1, 9, 0, 0},
            {1, 9, 0, 0, 1, 9, 10, 0}, {1, 9, 0, 0, 1, 9, 0, 10}, {1, 9, 0, 0, 1, 9, 5, 5},
            {1, 0, 1, 0, 1, 0, 0, 0}, {1, 0, 0, 0, 1, 0, 0, 1},
            {256, 2045, 1023, 1023, 256, 126, 63, 63}, {256, 2046, 1023, 1023, 256, 125, 63, 63}};
        for (int[] p : whole) {
            Say.due("not BROKEN", loaded(new Blocks(0).detailed(54, 100, p)), "detailed(0, 10)", 0, "told(20)", 0,
                "told(16)", 1, "told(6)", 1);
        }
        for (int[] p : broken) {
            Say.due("BROKEN", loaded(new Blocks(0).detailed(54, 100, p)), "detailed(0, 10)", 1, "told(20)", 1,
                "told(16)", 0, "told(6)", 1);
        }
    }

    /** "b54 to b125 four DESCRIPTORS of 18 bytes". */
    private static void fourDescriptors() {
        for (int d = 0; d < 4; d++) {
            Say.due("DESCRIPTOR " + d, loaded(new Blocks(0).detailed(54 + 18 * d, 100, FULL_HD).set(71 + 18 * d, 128)),
                "told(6)", 1, "detailed(0, 1)", 1920, "detailed(0, 9)", 1);
        }
        Say.due("b53 is none of them", loaded(new Blocks(0).set(53, 1)), "told(6)", 0);
    }

    /** "by e3: 0xFC NAME ..; 0xFD RANGE ..; others tell nothing." */
    private static void tagsOfDescriptors() {
        for (int tag = 0; tag < 256; tag++) {
            ScreenTalk x = loaded(new Blocks(0).set(72, 0, 0, 9, tag, 9, 65, 66, 67, 68, 69, 10));
            Say.due("e3 is " + tag, x, "told(15)", tag == 0xFC ? 5 : 0, "name(0)", tag == 0xFC ? 65 : -1,
                "told(9)", tag == 0xFD ? 65 : -1, "told(13)", tag == 0xFD ? 690000 : -1, "told(6)", 0);
        }
        Say.due("a CLOCK ahead of e3", loaded(new Blocks(0).named(72, "AB").set(73, 1)), "told(15)", 0, "told(6)", 1);
        Say.due("a CLOCK ahead of e3", loaded(new Blocks(0).range(72, 1, 2, 3, 4, 5).set(72, 1)), "told(9)", -1,
            "told(6)", 1);
    }

    /** Promise 7: "Byte k of NAME. NONE: not so many; -3: k is below 0."; none, one, twelve and thirteen bytes. */
    private static void nameLengths() {
        String all = "abcdefghijklm";
        for (int length = 0; length <= 13; length++) {
            for (int end : new int[] {10, 0}) {
                Blocks blocks = new Blocks(0).named(108, all);
                if (length < 13) {
                    blocks.set(113 + length, end);
                }
                ScreenTalk x = loaded(blocks);
                Say.due("7 " + length + " bytes", x, "told(15)", length, "name(" + length + ")", -1, "name(13)", -1,
                    "name(MAX)", -1, "name(-1)", -3, "name(MIN)", -3);
                if (length > 0) {
                    Say.due("7 " + length + " bytes", x, "name(0)", 97, "name(" + (length - 1) + ")", 96 + length);
                }
            }
        }
        Say.due("7 no BLOCKS", new ScreenTalk(), "name(0)", -1, "name(-1)", -3, "name(MIN)", -3, "name(MAX)", -1);
    }

    /** "up to the first 10 or 0 (a byte that isn't 32 to 126 counts as 63)": each byte there is. */
    private static void nameSigns() {
        for (int sign = 0; sign < 256; sign++) {
            ScreenTalk x = loaded(new Blocks(0).named(54, "A" + (char) sign + "B"));
            boolean ends = sign == 0 || sign == 10;
            boolean plain = sign >= 32 && sign <= 126;
            Say.due("7 sign " + sign, x, "told(15)", ends ? 1 : 3, "name(0)", 65,
                "name(1)", ends ? -1 : plain ? sign : 63, "name(2)", ends ? -1 : 66);
        }
    }

    /** "the latest of each counts": an empty one, too; a load of others has none. */
    private static void nameOfTheLatest() {
        Say.due("the latest NAME", loaded(new Blocks(0).named(54, "first").named(108, "2nd")), "told(15)", 3, "name(0)", 50);
        Say.due("the latest NAME", loaded(new Blocks(0).named(54, "x").named(72, "longer")), "told(15)", 6);
        Say.due("an empty one", loaded(new Blocks(0).named(54, "first").named(72, "")), "told(15)", 0, "name(0)", -1);
        Say.due("of each", loaded(new Blocks(0).named(54, "N").range(72, 1, 2, 3, 4, 5)), "told(15)", 1, "told(9)", 1);
        ScreenTalk x = loaded(new Blocks(0).named(54, "N").range(72, 1, 2, 3, 4, 5));
        new Blocks(0).loadSealed(x);
        Say.due("others have none", x, "told(15)", 0, "name(0)", -1, "told(9)", -1, "told(13)", -1);
        Say.due("in an EXTENSION there are none", loaded(new Blocks(1).set(130, 4).named(132, "E")), "told(15)", 0);
    }

    /** "e5 to e6 HERTZ, e7 to e8 kHz of lines, e9 times 10,000": bytes of 0 and of 255. */
    private static void rangeBytes() {
        Say.due("RANGE of 0", loaded(new Blocks(0).range(54, 0, 0, 0, 0, 0)), "told(9)", 0, "told(10)", 0, "told(11)", 0,
            "told(12)", 0, "told(13)", 0);
        Say.due("RANGE of 255", loaded(new Blocks(0).range(108, 255, 255, 255, 255, 255)), "told(9)", 255,
            "told(10)", 255, "told(11)", 255, "told(12)", 255, "told(13)", 2550000);
        Say.due("the latest RANGE", loaded(new Blocks(0).range(54, 9, 9, 9, 9, 9).range(72, 1, 2, 3, 4, 5)),
            "told(9)", 1, "told(10)", 2, "told(11)", 3, "told(12)", 4, "told(13)", 50000);
        Say.due("no RANGE", loaded(new Blocks(0)), "told(9)", -1, "told(10)", -1, "told(11)", -1, "told(12)", -1,
            "told(13)", -1);
    }

    /** "KIND 2: CODES: bits 6 to 0 of each byte": of KIND 2 alone, of no byte and of 31. */
    private static void codesOfData() {
        for (int kind = 0; kind < 8; kind++) {
            Say.due("KIND " + kind, loaded(new Blocks(1).data(1, kind * 32 + 3, 16, 144, 255)),
                "told(8)", kind == 2 ? 3 : 0, "told(16)", kind == 2 ? 1 : 0, "told(25)", kind == 2 ? 1 : 0,
                "told(21)", kind == 2 ? 1 : 0);
        }
        Say.due("no byte", loaded(new Blocks(1).data(1, 0x40)), "told(8)", 0);
        Say.due("b3 is no head", loaded(new Blocks(1).data(1, 0).set(131, 0x41)), "told(8)", 0);
        Blocks full = new Blocks(3);
        for (int e = 1; e <= 3; e++) {
            full.set(128 * e + 2, 127);
            for (int head : new int[] {4, 36, 68}) {
                full.set(128 * e + head, 0x5F);
            }
            // a last one of 26 bytes, from b101 up to b126
            full.set(128 * e + 100, 0x5A);
        }
        Say.due("as many CODES as there can be", loaded(full), "told(8)", 3 * (31 * 3 + 26), "told(21)", 3 * (31 * 3 + 26));
    }

    private static int[] mostData(int length, int... bytes) {
        int[] data = new int[length + 1];
        data[0] = 0x60 + length;
        System.arraycopy(bytes, 0, data, 1, Math.min(length, bytes.length));
        return data;
    }

    /** "KIND 3: if LENGTH is 7 or more": 6 tell none; the seventh is it of 31, too. */
    private static void mostByLength() {
        for (int length = 0; length <= 31; length++) {
            int[] data = mostData(length, 3, 12, 0, 1, 2, 3, 4, 5, 6);
            // the byte behind them isn't 0, so that it would tell a MOST, were it the seventh
            Blocks blocks = new Blocks(1).data(1, data).set(133 + length, 1, 0);
            blocks.set(130, 7 + length);
            Say.due("KIND 3 of LENGTH " + length, loaded(blocks), "told(14)", length >= 7 ? 20000 : 0);
        }
        for (int kind = 0; kind < 8; kind++) {
            int[] data = mostData(7, 3, 12, 0, 0, 0, 0, 2);
            data[0] = kind * 32 + 7;
            Say.due("MOST of KIND " + kind, loaded(new Blocks(1).data(1, data)), "told(14)", kind == 3 ? 10000 : 0);
        }
    }

    /** "and the first three are 3, 12, 0: 5,000 times the seventh is MOST". */
    private static void mostByItsBytes() {
        int[][] firsts = {{3, 12, 0}, {2, 12, 0}, {4, 12, 0}, {3, 11, 0}, {3, 13, 0}, {3, 12, 1}, {3, 12, 255}, {0, 12, 3}};
        for (int[] f : firsts) {
            boolean so = f[0] == 3 && f[1] == 12 && f[2] == 0;
            Say.due("the first three " + f[0] + " " + f[1] + " " + f[2],
                loaded(new Blocks(1).data(1, mostData(7, f[0], f[1], f[2], 9, 9, 9, 7))), "told(14)", so ? 35000 : 0);
        }
        for (int seventh : new int[] {0, 1, 2, 127, 128, 254, 255}) {
            Say.due("the seventh " + seventh, loaded(new Blocks(1).data(1, mostData(8, 3, 12, 0, 9, 9, 9, seventh, 9))),
                "told(14)", 5000 * seventh);
        }
    }

    /** "(0: none is told, also if one was told ahead; the latest counts)". */
    private static void mostOfTheLatest() {
        int[] ten = mostData(7, 3, 12, 0, 0, 0, 0, 10);
        int[] none = mostData(7, 3, 12, 0, 0, 0, 0, 0);
        int[] other = mostData(7, 3, 12, 1, 0, 0, 0, 0);
        int[] twenty = mostData(7, 3, 12, 0, 0, 0, 0, 20);
        Say.due("0 behind 10", loaded(new Blocks(2).data(1, ten).data(2, none)), "told(14)", 0);
        Say.due("10 behind 0", loaded(new Blocks(2).data(1, none).data(2, ten)), "told(14)", 50000);
        Say.due("20 behind 10", loaded(new Blocks(3).data(1, ten).data(3, twenty)), "told(14)", 100000);
        Say.due("10 behind 20", loaded(new Blocks(3).data(2, twenty).data(3, ten)), "told(14)", 50000);
        Say.due("another behind 10", loaded(new Blocks(2).data(1, ten).data(2, other)), "told(14)", 50000);
        Say.due("in one EXTENSION", loaded(new Blocks(1).data(1, 0x67, 3, 12, 0, 0, 0, 0, 10, 0x67, 3, 12, 0, 0, 0, 0, 0)),
            "told(14)", 0);
        ScreenTalk x = loaded(new Blocks(1).data(1, ten));
        new Blocks(0).loadSealed(x);
        Say.due("others have none", x, "told(14)", 0);
    }

    /** "KIND 1: LENGTH by 3 (cut) SOUNDS." */
    private static void sounds() {
        for (int length = 0; length <= 31; length++) {
            int[] data = new int[length + 1];
            data[0] = 0x20 + length;
            Say.due("SOUNDS of LENGTH " + length, loaded(new Blocks(1).data(1, data)), "told(7)", length / 3);
        }
        // each is cut for itself
        Say.due("two of 2, one of 4", loaded(new Blocks(2).data(1, 0x22, 0, 0, 0x22, 0, 0).data(2, 0x24, 0, 0, 0, 0)),
            "told(7)", 1);
        for (int kind = 0; kind < 8; kind++) {
            Say.due("SOUNDS of KIND " + kind, loaded(new Blocks(1).data(1, kind * 32 + 3, 0, 0, 0)),
                "told(7)", kind == 1 ? 1 : 0);
        }
    }

    /** "(none, if END is 0)" and "From END on (if it isn't 0)". */
    private static void dataOfNoEnd() {
        int[] data = {0x41, 16, 0x23, 0, 0, 0, 0x67, 3, 12, 0, 0, 0, 0, 9};
        Say.due("END behind them", loaded(new Blocks(1).data(1, data)), "told(8)", 1, "told(7)", 1, "told(14)", 45000);
        Say.due("END 0", loaded(new Blocks(1).data(1, data).set(130, 0)), "told(8)", 0, "told(7)", 0, "told(14)", 0,
            "told(6)", 0);
        Say.due("END 4: DESCRIPTORS instead", loaded(new Blocks(1).data(1, data).set(130, 4)), "told(8)", 0, "told(7)", 0,
            "told(14)", 0, "told(6)", 1);
        // b0 of an EXTENSION is 2: were END 0 taken for a place, its CLOCK wouldn't be 0
        Say.due("END 0 is no place", loaded(new Blocks(1)), "told(6)", 0);
    }

    /** "as long as 18 bytes end ahead of b127": how many there are from each END on. */
    private static void eighteenBytesAheadOfB127() {
        for (int end = 4; end <= 127; end++) {
            Blocks blocks = new Blocks(1).set(130, end);
            for (int i = end; i < 127; i++) {
                blocks.set(128 + i, 1);
            }
            int many = (127 - end) / 18;
            Say.due("END " + end, loaded(blocks), "told(6)", many, "detailed(" + many + ", 0)", -2);
        }
        Say.due("END 19", loaded(ones(new Blocks(1).set(130, 19))), "told(6)", 6, "detailed(5, 0)", 2570);
        Say.due("END 20", loaded(ones(new Blocks(1).set(130, 20))), "told(6)", 5);
        Say.due("END 109", loaded(ones(new Blocks(1).set(130, 109))), "told(6)", 1);
        Say.due("END 110", loaded(ones(new Blocks(1).set(130, 110))), "told(6)", 0);
        // the last byte is b126
        Say.due("INTERLACED by b126", loaded(ones(new Blocks(1).set(130, 109)).set(254, 128)), "detailed(0, 9)", 1);
    }

    private static Blocks ones(Blocks blocks) {
        for (int i = blocks.bytes[130]; i < 127; i++) {
            blocks.set(128 + i, 1);
        }
        return blocks;
    }

    /** "and CLOCK isn't 0": those behind such a one tell nothing; each EXTENSION begins anew. */
    private static void upToAClockOf0() {
        for (int gap = 0; gap <= 6; gap++) {
            Blocks blocks = new Blocks(2).set(130, 4).set(258, 4);
            for (int d = 0; d < 6; d++) {
                blocks.detailed(132 + 18 * d, d == gap ? 0 : 1 + d, FULL_HD);
            }
            blocks.detailed(260, 7, FULL_HD);
            Say.due("CLOCK 0 at " + gap, loaded(blocks), "told(6)", gap + 1, "detailed(" + gap + ", 0)", 70,
                "detailed(" + (gap + 1) + ", 0)", -2);
        }
        Say.due("CLOCK 0 in the BASE", loaded(new Blocks(0).detailed(72, 3, FULL_HD).detailed(108, 4, FULL_HD)),
            "told(6)", 2, "detailed(0, 0)", 30, "detailed(1, 0)", 40);
        Say.due("CLOCK of e0, of e1", loaded(new Blocks(1).set(130, 4).detailed(132, 1, FULL_HD).detailed(150, 256, FULL_HD)),
            "told(6)", 2, "detailed(0, 0)", 10, "detailed(1, 0)", 2560);
    }

    /** Promise 8: "-2: there is none such, what." */
    private static void detailedNumbers() {
        Say.due("8 no BLOCKS", new ScreenTalk(), "detailed(0, 0)", -2, "detailed(-1, 0)", -2, "detailed(0, 11)", -2);
        Say.due("8 none", loaded(new Blocks(0)), "detailed(0, 0)", -2, "detailed(0, 10)", -2);
        Blocks full = new Blocks(3);
        for (int d = 0; d < 4; d++) {
            full.detailed(54 + 18 * d, 1 + d, FULL_HD);
        }
        for (int e = 1; e <= 3; e++) {
            full.set(128 * e + 2, 4);
            for (int d = 0; d < 6; d++) {
                full.detailed(128 * e + 4 + 18 * d, 10 * e + d, FULL_HD);
            }
        }
        ScreenTalk x = loaded(full);
        Say.due("8 of the BASE, then of EXTENSIONS", x, "told(6)", 22, "detailed(0, 0)", 10, "detailed(3, 0)", 40,
            "detailed(4, 0)", 100, "detailed(9, 0)", 150, "detailed(10, 0)", 200, "detailed(21, 0)", 350);
        Say.due("8 none such", x, "detailed(-1, 0)", -2, "detailed(22, 0)", -2, "detailed(MIN, 0)", -2,
            "detailed(MAX, 0)", -2);
        Say.due("8 what", x, "detailed(21, 10)", 0, "detailed(21, 11)", -2, "detailed(21, -1)", -2,
            "detailed(21, MIN)", -2, "detailed(21, MAX)", -2);
    }

    /** Promise 9: "Byte i (0 to 127)"; "-2: i; -5: there are no BLOCKS". */
    private static void forgedNumbers() {
        Say.due("9 no BLOCKS", new ScreenTalk(), "forged(-1)", -2, "forged(0)", -5, "forged(127)", -5, "forged(128)", -2,
            "forged(MIN)", -2, "forged(MAX)", -2);
        // b0 to b7: 1530, maker 71, version 1: 1602 and 190 are seven times 256
        Say.due("9 an empty one", loaded(new Blocks(0).set(20, 128).set(23, 78)), "forged(-1)", -2, "forged(0)", 0,
            "forged(20)", 0, "forged(23)", 0, "forged(126)", 0, "forged(127)", 190, "forged(128)", -2, "forged(MIN)", -2,
            "forged(MAX)", -2);
        Say.due("9 without EXTENSIONS", loaded(new Blocks(3)), "forged(126)", 0, "forged(127)", 190);
    }

    private static void same(String what, ScreenTalk x, Blocks want) {
        want.sealed();
        for (int i = 0; i < 128; i++) {
            Say.due(what, x, "forged(" + i + ")", want.bytes[i]);
        }
    }

    /** "in the place of the first MODE that isn't there NAME .., of the next one behind that place RANGE ..,
        if there are these places": 0 to 5 MODES, with and without a NAME, a RANGE. */
    private static void forgedPlaces() {
        for (int modes = 0; modes <= 5; modes++) {
            for (int tells = 0; tells < 8; tells++) {
                boolean named = (tells & 1) != 0;
                boolean ranged = (tells & 2) != 0;
                Blocks told = new Blocks(1).set(130, 4);
                Blocks want = new Blocks(0);
                for (int m = 0; m < modes; m++) {
                    int[] p = {1000 - m, 280, 88, 44, 500, 100, 4, 5};
                    told.detailed(132 + 18 * m, 5000, p);
                    if (m < 4) {
                        want.detailed(54 + 18 * m, 5000, p);
                    }
                }
                if ((tells & 4) != 0) {
                    told.named(54, "");
                }
                if (named) {
                    told.named(72, "Name");
                }
                if (ranged) {
                    told.range(90, 1, 200, 2, 250, 255).set(100, 7, 7, 7);
                }
                if (named && modes < 4) {
                    want.named(54 + 18 * modes, "Name");
                }
                if (ranged && modes < 3) {
                    want.range(72 + 18 * modes, 1, 200, 2, 250, 255);
                }
                same("9 " + modes + " MODES, tells " + tells, loaded(told), want);
            }
        }
    }

    /** "its bytes, a 10 if there is room, then 32": 1, 11, 12 and 13 bytes, and what counts as 63. */
    private static void forgedName() {
        for (int length = 1; length <= 13; length++) {
            String name = "abcdefghijklm".substring(0, length);
            Blocks told = new Blocks(0).named(108, name);
            for (int k = length + 1; k < 13; k++) {
                told.set(113 + k, 99);
            }
            same("9 NAME of " + length, loaded(told), new Blocks(0).named(54, name));
        }
        same("9 an empty NAME", loaded(new Blocks(0).named(54, "")), new Blocks(0));
        same("9 63 for others", loaded(new Blocks(0).named(54, "" + (char) 31 + (char) 127 + (char) 255)),
            new Blocks(0).named(54, "???"));
    }

    /** "(CLOCK by 10, cut; INTERLACED never; .. 0 of those by CODES)". */
    private static void forgedClock() {
        same("9 25,175 is cut", loaded(new Blocks(1).data(1, 0x41, 1)),
            new Blocks(0).detailed(54, 2517, 640, 160, 0, 0, 480, 45, 0, 0));
        same("9 594,000", loaded(new Blocks(1).data(1, 0x41, 97)),
            new Blocks(0).detailed(54, 59400, 3840, 560, 0, 0, 2160, 90, 0, 0));
        same("9 e12 to e17 are 0", loaded(new Blocks(0).detailed(54, 1, FULL_HD).set(66, 1, 2, 3, 4, 5, 127)),
            new Blocks(0).detailed(54, 1, FULL_HD));
        same("9 as great as can be", loaded(new Blocks(0).detailed(54, 65535, 4095, 4095, 1023, 1023, 4095, 4095, 63, 63)),
            new Blocks(0).detailed(54, 65535, 4095, 4095, 1023, 1023, 4095, 4095, 63, 63));
    }

    /** "b8, b9, b21, b22 as the BASE has them, b18 1, ..; all other bytes 0". */
    private static void forgedBase() {
        for (int i = 8; i < 54; i++) {
            if (i == 18) {
                continue;
            }
            Blocks told = new Blocks(0).set(8, 0, 0).set(i, 255);
            // 255 as the first of a STANDARD one would tell a MODE
            if (i >= 35 && i < 54 && i != 37) {
                told.set(i, i < 37 ? 0x40 : i % 2 * 255);
            }
            Blocks want = new Blocks(0).set(8, 0, 0);
            if (i == 8 || i == 9 || i == 21 || i == 22) {
                want.set(i, 255);
            }
            same("9 b" + i + " is 255", loaded(told), want);
        }
    }

    /** Each bit of each part of a MODE alone has its place in FORGED. */
    private static void forgedBitByBit() {
        int[] bits = {12, 12, 10, 10, 12, 12, 6, 6};
        for (int part = 0; part < 8; part++) {
            for (int bit = 0; bit < bits[part]; bit++) {
                int[] p = {1, part == 1 ? 0 : 4095, 0, 0, 1, part == 5 ? 0 : 4095, 0, 0};
                p[part] = 1 << bit;
                same("9 bit " + bit + " of part " + part, loaded(new Blocks(0).detailed(54, 1, p)),
                    new Blocks(0).detailed(54, 1, p));
            }
        }
        for (int bit = 0; bit < 16; bit++) {
            same("9 bit " + bit + " of CLOCK", loaded(new Blocks(0).detailed(54, 1 << bit, FULL_HD)),
                new Blocks(0).detailed(54, 1 << bit, FULL_HD));
        }
        // what a DETAILED one ahead of it has isn't that of one by CODES or by the formula
        same("9 by CODES", loaded(new Blocks(1).detailed(54, 1000, FULL_HD).detailed(72, 1, FULL_HD).set(89, 128)
            .data(1, 0x41, 4)), new Blocks(0).detailed(54, 1000, FULL_HD)
            .detailed(72, 7425, 1280, 370, 0, 0, 720, 30, 0, 0));
        same("9 by the formula", loaded(new Blocks(0).detailed(72, 1, FULL_HD).set(89, 128).set(35, 1)),
            new Blocks(0).detailed(54, 3550, 800, 160, 48, 32, 600, 18, 3, 4));
    }

    /** "are the BLOCKS": of those that were ahead of them nothing is left. */
    private static void ofTheLatestBlocks() {
        Blocks rich = new Blocks(3).detailed(54, 14850, FULL_HD).named(72, "Name").range(90, 1, 200, 1, 200, 60)
            .set(21, 60, 34).set(35, 255, 255).set(38, 0x81, 0x80, 0x81, 0x80)
            .data(1, 0x44, 97, 16, 5, 1, 0x23, 1, 1, 1, 0x67, 3, 12, 0, 0, 0, 0, 30).set(258, 4).detailed(260, 1, FULL_HD)
            .detailed(278, 9, 0, 0, 0, 0, 0, 0, 0, 0).detailed(296, 9, FULL_HD).set(313, 128);
        ScreenTalk x = loaded(rich);
        Due.holds("rich", x.told(6) == 4 && x.told(7) == 1 && x.told(20) == 1 && x.told(22) == 1 && x.told(25) > 0);
        new Blocks(0).loadSealed(x);
        ScreenTalk y = loaded(new Blocks(0));
        for (int what = 0; what <= 26; what++) {
            Say.due("3 nothing is left", x, "told(" + what + ")", y.told(what));
        }
        same("3 nothing is left", x, new Blocks(0));
        Say.due("3 nothing is left", x, "detailed(0, 0)", -2, "mode(0, 0)", -2, "name(0)", -1, "count(0)", 1,
            "find(1920, 1080, 60)", -1, "best(4, 3, 0)", -1);
    }

    /** "NONE: a part of one of these MODES has no room": no bytes tell such a MODE, the greatest STANDARD ones neither. */
    private static void forgedAlwaysHasRoom() {
        for (int shape = 0; shape < 4; shape++) {
            ScreenTalk x = loaded(new Blocks(0).set(38, 255, shape * 64 + 63));
            Say.due("9 the greatest STANDARD one of shape " + shape, x, "mode(0, 0)", 2288, "forged(0)", 0,
                "forged(56)", 2288 % 256, "forged(18)", 1);
            Due.holds("9 its CLOCK has room", x.mode(0, 3) <= 655359);
        }
    }
}
