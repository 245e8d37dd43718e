/** Promises 1 to 9: a new object, feed, load, fault, mend, told, name, detailed, forged. */
public final class BlocksTest {
    private static final int[] FULL_HD = {1920, 280, 88, 44, 1080, 45, 4, 5};
    private static final int[] HD = {1280, 370, 110, 40, 720, 30, 5, 5};

    public static void main(String[] args) {
        newObject();
        feed();
        load();
        faultsOfHeads();
        faultsOfExtensions();
        faultOrder();
        mend();
        told();
        toldCountsAndRange();
        most();
        name();
        detailed();
        detailedOfExtensions();
        forged();
        forgedPlaces();
        Due.end();
    }

    private static void newObject() {
        ScreenTalk x = new ScreenTalk();
        Due.due("1 count(0)", x.count(0), 0);
        Due.due("1 mode(0, 0)", x.mode(0, 0), -2);
        Due.due("1 told(16)", x.told(16), -5);
        Due.due("1 find(0, 0, 0)", x.find(0, 0, 0), -1);
        Due.due("1 NONE", ScreenTalk.NONE, -1);
    }

    private static void feed() {
        ScreenTalk x = new ScreenTalk();
        for (int i = 1; i <= 26; i++) {
            Due.due("2 feed", x.feed(i, -1, 0x80000000, 0x7FFFFFFF, 0), 20 * i);
        }
        Due.due("2 feed beyond 520", x.feed(1, 2, 3, 4, 5), -4);
        Due.due("2 count(1)", x.count(1), 520);
        ScreenTalk y = new ScreenTalk();
        y.feed(0x00FF01FE, 0x80020304, 5, 6, 7);
        for (int i = 0; i < 6; i++) {
            y.feed(0, 0, 0, 0, 0);
        }
        y.load(128);
        // the bytes are seen by what would mend each: itself less the sum of all
        int sum = 255 + 1 + 254 + 128 + 2 + 3 + 4 + 5 + 6 + 7;
        int[] first = {0, 255, 1, 254, 128, 2, 3, 4, 0, 0, 0, 5};
        for (int i = 0; i < first.length; i++) {
            Due.due("2 mend(" + i + ")", y.mend(i), first[i] - sum & 255);
        }
    }

    private static void load() {
        ScreenTalk x = new ScreenTalk();
        Due.due("3 load(-1)", x.load(-1), -3);
        Due.due("3 load(1)", x.load(1), -3);
        Blocks blocks = new Blocks(0).detailed(54, 14850, FULL_HD).sealed().fed(x);
        Due.due("3 load(141)", x.load(141), -3);
        Due.due("3 the tape stays", x.count(1), 140);
        Due.due("3 load(128)", x.load(128), 1);
        Due.due("3 the tape is empty", x.count(1), 0);
        Due.due("3 count(0)", x.count(0), 1);
        blocks.fed(x);
        Due.due("3 load(127)", x.load(127), -31);
        Due.due("3 the tape is empty after a fault", x.count(1), 0);
        Due.due("3 the blocks stay", x.count(0), 1);
        Due.due("3 the modes stay", x.mode(0, 0), 1920);
        Due.due("3 four blocks", new Blocks(3).loadSealed(x), 0);
        Due.due("3 count(0) is 4", x.count(0), 4);
        Due.due("3 the modes are gone", x.mode(0, 0), -2);
        new Blocks(3).sealed().fed(x);
        Due.due("3 load(520) of 520", x.load(520), -31);
        Due.due("3 fault(1)", x.fault(1), 520);
        Due.due("3 the blocks stay, too", x.count(0), 4);
        Due.due("3 load(0)", x.load(0), -31);
    }

    private static void faulty(String what, Blocks blocks, int kind, int place) {
        ScreenTalk x = new ScreenTalk();
        int answer = blocks.load(x);
        Due.due(what + ": load", answer, kind == 0 ? 0 : -30 - kind);
        Due.due(what + ": fault(0)", x.fault(0), kind);
        Due.due(what + ": fault(1)", x.fault(1), place);
        Due.due(what + ": count(0)", x.count(0), kind == 0 ? blocks.bytes.length / 128 : 0);
    }

    private static void faultsOfHeads() {
        ScreenTalk x = new ScreenTalk();
        Due.due("4 fault(0) of a new object", x.fault(0), 0);
        Due.due("4 fault(1) of a new object", x.fault(1), -1);
        Due.due("4 fault(2)", x.fault(2), -1);
        Due.due("4 fault(-1)", x.fault(-1), -1);
        faulty("4 none", new Blocks(1).sealed(), 0, -1);
        for (int i = 0; i < 8; i++) {
            faulty("4 b" + i, new Blocks(1).set(i, 1).sealed(), 2, i);
        }
        faulty("4 two bytes of b0 to b7", new Blocks(0).set(2, 0).set(5, 0).sealed(), 2, 2);
        faulty("4 sum", new Blocks(0).sealed().set(50, 3), 3, 127);
        faulty("4 b18 is 0", new Blocks(0).set(18, 0).sealed(), 4, 18);
        faulty("4 b18 is 2", new Blocks(1).set(18, 2).sealed(), 4, 18);
        faulty("4 b126 too many", new Blocks(1).set(126, 2).sealed(), 5, 126);
        faulty("4 b126 too few", new Blocks(2).set(126, 1).sealed(), 5, 126);
        x.load(0);
        x.load(5);
        Due.due("4 load that is refused takes no bytes", x.fault(0), 1);
        new Blocks(0).loadSealed(x);
        Due.due("4 the latest counts", x.fault(0), 0);
        Due.due("4 the latest place counts", x.fault(1), -1);
    }

    private static void faultsOfExtensions() {
        faulty("4 b0 of an extension", new Blocks(3).set(256, 3).sealed(), 2, 256);
        faulty("4 sum of an extension", new Blocks(3).sealed().set(300, 7), 3, 383);
        for (int end = 1; end < 4; end++) {
            faulty("4 END " + end, new Blocks(2).set(258, end).sealed(), 6, 258);
        }
        faulty("4 END 4", new Blocks(1).set(130, 4).sealed(), 0, -1);
        faulty("4 END 127", new Blocks(1).set(130, 127).sealed(), 0, -1);
        faulty("4 END 128", new Blocks(1).set(130, 128).sealed(), 6, 130);
        faulty("4 data to END", new Blocks(1).data(1, 2, 0, 0, 1, 0).sealed(), 0, -1);
        faulty("4 data beyond END", new Blocks(1).data(1, 2, 0, 0, 2, 0).sealed(), 7, 135);
        faulty("4 first data beyond END", new Blocks(1).data(1, 31).sealed(), 7, 132);
        faulty("4 END 0 has no data", new Blocks(1).set(132, 31, 31, 31).sealed(), 0, -1);
    }

    private static void faultOrder() {
        Blocks all = new Blocks(3).set(3, 0).set(18, 2).set(126, 9).set(128, 1).set(258, 3).data(3, 9);
        all.sealed().set(60, 5).set(200, 1);
        faulty("4 head of the base first", all, 2, 3);
        faulty("4 then its sum", all.set(3, 255), 3, 127);
        faulty("4 then the next block", all.sealed().set(200, 2), 2, 128);
        faulty("4 then its sum", all.set(128, 2), 3, 255);
        faulty("4 then b18", all.sealed(), 4, 18);
        faulty("4 then b126", all.set(18, 1).sealed(), 5, 126);
        faulty("4 then extension by extension", all.set(126, 3).sealed(), 6, 258);
        faulty("4 then the next extension", all.set(258, 0).sealed(), 7, 388);
        faulty("4 data of an extension ahead of END of the next",
            new Blocks(2).data(1, 9).set(258, 1).sealed(), 7, 132);
    }

    private static void mend() {
        ScreenTalk x = new ScreenTalk();
        Due.due("5 mend(-1)", x.mend(-1), -3);
        Due.due("5 mend(0) of none", x.mend(0), -1);
        Blocks blocks = new Blocks(1).sealed();
        blocks.set(40, 255).fed(x);
        Due.due("5 load", x.load(200), -31);
        Due.due("5 mend(40)", x.mend(40), 0);
        Due.due("5 mend(127)", x.mend(127), blocks.bytes[127] - 255 & 255);
        Due.due("5 mend(128) isn't in a whole block", x.mend(128), -1);
        Due.due("5 mend of the greatest int", x.mend(Integer.MAX_VALUE), -1);
        blocks.fed(x);
        Due.due("5 load", x.load(256), -33);
        Due.due("5 mend(128) of a right block", x.mend(128), 2);
        Due.due("5 mend(255)", x.mend(255), blocks.bytes[255]);
        Due.due("5 mend(256)", x.mend(256), -1);
        x.load(1);
        Due.due("5 a refused load takes no bytes", x.mend(40), 0);
        new Blocks(0).loadSealed(x);
        Due.due("5 right bytes, too", x.mend(18), 1);
        Due.due("5 only the latest", x.mend(128), -1);
        x.feed(1, 1, 1, 1, 1);
        Due.due("5 the tape doesn't count", x.mend(18), 1);
        new Blocks(3).sealed().fed(x);
        x.load(0);
        for (int i = 0; i < 26; i++) {
            x.feed(0, 0, 0, 0, 0);
        }
        x.load(520);
        Due.due("5 mend(511)", x.mend(511), 0);
        Due.due("5 mend(512)", x.mend(512), -1);
    }

    private static void told() {
        ScreenTalk x = new ScreenTalk();
        for (int what = 0; what <= 26; what++) {
            Due.due("6 told(" + what + ") of no blocks", x.told(what), what > 16 && what < 20 ? -2 : -5);
        }
        new Blocks(2).set(8, 0x80 | 26 << 2 | 31 >> 3, (31 & 7) << 5).set(21, 60, 34).loadSealed(x);
        int[] want = {90, 95, 64, 60, 34, 2, 0, 0, 0, -1, -1, -1, -1, -1, 0, 0, 0};
        for (int what = 0; what < want.length; what++) {
            Due.due("6 told(" + what + ")", x.told(what), want[what]);
        }
        for (int what : new int[] {-1, 17, 18, 19, 27, Integer.MIN_VALUE, Integer.MAX_VALUE}) {
            Due.due("6 told(" + what + ")", x.told(what), -2);
        }
        for (int what = 20; what <= 26; what++) {
            Due.due("6 told(" + what + ")", x.told(what), 0);
        }
    }

    private static void toldCountsAndRange() {
        ScreenTalk x = new ScreenTalk();
        Blocks blocks = new Blocks(2)
            .detailed(54, 14850, FULL_HD).range(72, 1, 2, 3, 4, 5).detailed(90, 1, 0, 0, 0, 0, 0, 0, 0, 0)
            .range(108, 50, 75, 30, 80, 17)
            .data(1, 0x25, 1, 2, 3, 4, 5, 0x43, 0x90, 4, 0).data(2, 0x41, 127, 0x23, 9, 9, 9, 0x22, 1, 1)
            .detailed(256 + 4 + 9, 7425, HD);
        Due.due("6 load", blocks.loadSealed(x), 2);
        int[] want = {65, 66, 67, 0, 0, 2, 3, 2, 4, 50, 75, 30, 80, 170000, 0, 0, 2};
        for (int what = 0; what < want.length; what++) {
            Due.due("6 told(" + what + ")", x.told(what), want[what]);
        }
        // left out: a broken one, codes 0 and 127, codes 16 and 4 that were told as detailed ones
        int[] out = {1, 2, 0, 0, 0, 2, 0};
        for (int why = 0; why < out.length; why++) {
            Due.due("6 told(" + (20 + why) + ")", x.told(20 + why), out[why]);
        }
    }

    private static void most() {
        ScreenTalk x = new ScreenTalk();
        int[] told = {0x67, 3, 12, 0, 0, 0, 0, 45};
        new Blocks(1).data(1, told).loadSealed(x);
        Due.due("6 MOST", x.told(14), 225000);
        new Blocks(2).data(1, told).data(2, 0x68, 3, 12, 0, 0, 0, 0, 0, 9).loadSealed(x);
        Due.due("6 MOST taken back", x.told(14), 0);
        new Blocks(2).data(1, told).data(2, 0x67, 3, 12, 0, 0, 0, 0, 255).loadSealed(x);
        Due.due("6 the latest MOST", x.told(14), 1275000);
        new Blocks(2).data(1, told).data(2, 0x66, 3, 12, 0, 0, 0, 0).loadSealed(x);
        Due.due("6 too short for MOST", x.told(14), 225000);
        new Blocks(1).data(1, 0x67, 3, 12, 1, 0, 0, 0, 9, 0x67, 3, 11, 0, 0, 0, 0, 9, 0x67, 2, 12, 0, 0, 0, 0, 9)
            .loadSealed(x);
        Due.due("6 others tell no MOST", x.told(14), 0);
    }

    private static void name() {
        ScreenTalk x = new ScreenTalk();
        Due.due("7 name(-1) of none", x.name(-1), -3);
        Due.due("7 name(0) of none", x.name(0), -1);
        new Blocks(0).named(54, "old one").named(72, "A" + (char) 31 + (char) 127 + "~ ")
            .loadSealed(x);
        int[] want = {65, 63, 63, 126, 32, -1};
        for (int k = 0; k < want.length; k++) {
            Due.due("7 name(" + k + ")", x.name(k), want[k]);
        }
        Due.due("7 name(-1)", x.name(-1), -3);
        Due.due("7 name of the greatest int", x.name(Integer.MAX_VALUE), -1);
        Due.due("7 told(15)", x.told(15), 5);
        new Blocks(0).named(108, "thirteenbytes").loadSealed(x);
        Due.due("7 told(15) of 13", x.told(15), 13);
        Due.due("7 name(12)", x.name(12), 's');
        Due.due("7 name(13)", x.name(13), -1);
        new Blocks(0).named(54, "gone").named(90, "").loadSealed(x);
        Due.due("7 the latest, if empty, too", x.told(15), 0);
        new Blocks(0).named(54, "AB" + (char) 0 + "CD").loadSealed(x);
        Due.due("7 a 0 ends it", x.told(15), 2);
        new Blocks(0).named(54, "a clock").set(54, 1).loadSealed(x);
        Due.due("7 a detailed one tells no name", x.told(15), 0);
        new Blocks(0).loadSealed(x);
        Due.due("7 no name any more", x.name(0), -1);
    }

    private static void detailed() {
        ScreenTalk x = new ScreenTalk();
        Due.due("8 none", x.detailed(0, 0), -2);
        Blocks blocks = new Blocks(0).detailed(72, 65535, 4095, 4094, 1023, 1022, 4093, 4092, 63, 62)
            .detailed(90, 256, 0x123, 0x456, 0x17A, 0x2BC, 0x321, 0x654, 0x15, 0x2A).set(107, 0x80);
        Due.due("8 load", blocks.loadSealed(x), 1);
        int[][] want = {{655350, 4095, 4094, 1023, 1022, 4093, 4092, 63, 62, 0, 0},
            {2560, 0x123, 0x456, 0x17A, 0x2BC, 0x321, 0x654, 0x15, 0x2A, 1, 0}};
        for (int k = 0; k < 2; k++) {
            for (int what = 0; what <= 10; what++) {
                Due.due("8 detailed(" + k + ", " + what + ")", x.detailed(k, what), want[k][what]);
            }
        }
        for (int k : new int[] {-1, 2, Integer.MAX_VALUE, Integer.MIN_VALUE}) {
            Due.due("8 detailed(" + k + ", 0)", x.detailed(k, 0), -2);
        }
        Due.due("8 detailed(0, -1)", x.detailed(0, -1), -2);
        Due.due("8 detailed(0, 11)", x.detailed(0, 11), -2);
        int[][] sizes = {{0, 9, 1, 1, 9, 9, 1, 1}, {9, 9, 1, 1, 0, 9, 1, 1}, {9, 9, 5, 4, 9, 9, 4, 5},
            {9, 9, 5, 5, 9, 9, 4, 5}, {9, 9, 5, 4, 9, 9, 5, 5}};
        int[] broken = {1, 1, 0, 1, 1};
        for (int i = 0; i < sizes.length; i++) {
            new Blocks(0).detailed(54, 1, sizes[i]).loadSealed(x);
            Due.due("8 broken " + i, x.detailed(0, 10), broken[i]);
            Due.due("8 left out " + i, x.told(20), broken[i]);
        }
        new Blocks(0).detailed(54, 1, FULL_HD).set(71, 0x7F).loadSealed(x);
        Due.due("8 bit 7 alone is interlaced", x.detailed(0, 9), 0);
    }

    private static void detailedOfExtensions() {
        ScreenTalk x = new ScreenTalk();
        Blocks blocks = new Blocks(3).detailed(108, 100, FULL_HD);
        for (int e = 1; e <= 3; e++) {
            blocks.set(128 * e + 2, 4);
            for (int d = 0; d < 6; d++) {
                blocks.detailed(128 * e + 4 + 18 * d, 10 * e + d, FULL_HD);
            }
        }
        blocks.set(128 + 4 + 18 * 2, 0, 0);
        blocks.set(256 + 126, 0);
        blocks.loadSealed(x);
        Due.due("8 DETAILED up to a CLOCK of 0", x.told(6), 1 + 2 + 6 + 6);
        int[] clocks = {1000, 100, 110, 200, 210, 220, 230, 240, 250, 300};
        for (int k = 0; k < clocks.length; k++) {
            Due.due("8 detailed(" + k + ", 0)", x.detailed(k, 0), clocks[k]);
        }
        new Blocks(1).set(130, 109).detailed(128 + 109, 100, FULL_HD).loadSealed(x);
        Due.due("8 18 bytes end ahead of b127", x.told(6), 1);
        new Blocks(1).set(130, 110).set(238, 1, 1, 1).loadSealed(x);
        Due.due("8 18 bytes end at b127", x.told(6), 0);
        new Blocks(1).set(132, 1, 1, 1).loadSealed(x);
        Due.due("8 END 0 has no DETAILED", x.told(6), 0);
        Blocks most = new Blocks(3);
        for (int d = 0; d < 4; d++) {
            most.detailed(54 + 18 * d, 100 + d, FULL_HD);
        }
        for (int e = 1; e <= 3; e++) {
            most.set(128 * e + 2, 4);
            for (int d = 0; d < 6; d++) {
                most.detailed(128 * e + 4 + 18 * d, 10 * e + d, FULL_HD);
            }
        }
        most.loadSealed(x);
        Due.due("8 as many as can be", x.told(6), 22);
        Due.due("8 the last of them", x.detailed(21, 0), 350);
    }

    private static void forged() {
        ScreenTalk x = new ScreenTalk();
        Due.due("9 forged(128) of no blocks", x.forged(128), -2);
        Due.due("9 forged(-1) of no blocks", x.forged(-1), -2);
        Due.due("9 forged(0) of no blocks", x.forged(0), -5);
        Blocks told = new Blocks(1).set(8, 0x12, 0x34).set(10, 7, 7, 7).set(21, 60, 34)
            .detailed(54, 65535, 4095, 4094, 1023, 1022, 4093, 4092, 63, 62).set(66, 9, 9, 9, 9, 9, 0x1E)
            .named(72, "Name").range(90, 0, 255, 0, 255, 255).set(100, 4, 5, 6).data(1, 0x41, 1);
        Due.due("9 load", told.loadSealed(x), 2);
        Blocks want = new Blocks(0).set(8, 0x12, 0x34).set(21, 60, 34)
            .detailed(54, 65535, 4095, 4094, 1023, 1022, 4093, 4092, 63, 62)
            .detailed(72, 2517, 640, 160, 0, 0, 480, 45, 0, 0)
            .named(90, "Name").range(108, 0, 255, 0, 255, 255);
        same("9 two modes", x, want);
        Due.due("9 forged(128)", x.forged(128), -2);
        Due.due("9 forged(-1)", x.forged(-1), -2);
        ScreenTalk y = new ScreenTalk();
        Due.due("9 what is forged is right", want.loadSealed(y), 2);
        Due.due("9 and tells the same", y.mode(0, 8), x.mode(0, 8));
    }

    private static void same(String what, ScreenTalk x, Blocks want) {
        want.sealed();
        for (int i = 0; i < 128; i++) {
            Due.due(what + ": forged(" + i + ")", x.forged(i), want.bytes[i]);
        }
    }

    private static void forgedPlaces() {
        ScreenTalk x = new ScreenTalk();
        new Blocks(0).named(54, "").range(72, 1, 2, 3, 4, 5).loadSealed(x);
        same("9 no name", x, new Blocks(0).range(72, 1, 2, 3, 4, 5));
        new Blocks(0).named(108, "thirteenbytes").loadSealed(x);
        same("9 no range", x, new Blocks(0).named(54, "thirteenbytes"));
        Blocks three = new Blocks(0).set(35, 0x21).set(36, 8).named(54, "A" + (char) 200).range(72, 0, 255, 0, 255, 255);
        Due.due("9 load of three", three.loadSealed(x), 3);
        same("9 three modes", x, new Blocks(0)
            .detailed(54, 5600, 1024, 160, 48, 32, 768, 22, 3, 4)
            .detailed(72, 3550, 800, 160, 48, 32, 600, 18, 3, 4)
            .detailed(90, 2350, 640, 160, 48, 32, 480, 14, 3, 4).named(108, "A?"));
        Blocks five = new Blocks(0).set(35, 0x25).set(36, 9).named(54, "N").loadedOn(x);
        Due.due("9 modes of five", x.told(16), 5);
        same("9 five modes", x, new Blocks(0)
            .detailed(54, 11450, 1280, 160, 48, 32, 1024, 37, 3, 7)
            .detailed(72, 5600, 1024, 160, 48, 32, 768, 22, 3, 4)
            .detailed(90, 3550, 800, 160, 48, 32, 600, 18, 3, 4)
            .detailed(108, 2975, 640, 160, 48, 32, 480, 18, 3, 4));
        Due.holds("9 five were told", five.bytes.length == 128);
        new Blocks(0).detailed(54, 65535, 4095, 4095, 1023, 1023, 4095, 4095, 63, 63).loadSealed(x);
        same("9 each part as great as can be", x,
            new Blocks(0).detailed(54, 65535, 4095, 4095, 1023, 1023, 4095, 4095, 63, 63));
        x.load(0);
        Due.due("9 a fault changes nothing", x.forged(18), 1);
    }
}
