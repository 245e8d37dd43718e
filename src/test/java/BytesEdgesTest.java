/** The edges of the bytes: THE TAPE, lengths, heads, sums, FAULTS and what would mend them. */
public final class BytesEdgesTest {
    public static void main(String[] args) {
        newObject();
        feedUpTo520();
        feedHighestFirst();
        loadOfWhatThereIs();
        tapeIsEmptyThen();
        oneToFourBlocks();
        headOfTheBase();
        headOfAnExtension();
        sums();
        version();
        howManyExtensions();
        end();
        dataUpToEnd();
        dataBeyondEnd();
        firstFault();
        blockByBlock();
        extensionByExtension();
        faultOfTheLatestLoad();
        mendInWholeBlocks();
        mendOfAnySum();
        mendRightOrNot();
        Due.end();
    }

    /** Promise 1: "No BLOCKS, no MODES." and what the terms say of "at first". */
    private static void newObject() {
        Say.due("1 no BLOCKS", new ScreenTalk(), "count(0)", 0, "told(5)", -5, "told(16)", -5, "forged(0)", -5,
            "detailed(0, 0)", -2, "name(0)", -1, "mend(0)", -1, "fault(0)", 0, "fault(1)", -1);
        Say.due("1 no MODES", new ScreenTalk(), "mode(0, 0)", -2, "called(0, 0)", -2, "find(0, 0, 0)", -1,
            "need(0, 8)", -2, "cheapest(0, 8)", -2, "best(4, 3, 0)", -1, "best(4, 3, 1)", -1, "would(0)", -1);
        Say.due("WISH 8, a WIRE of 4 and 2 at first", new ScreenTalk(), "count(1)", 0, "count(2)", 8, "count(3)", 4,
            "count(4)", 2, "wish(6)", 8);
        ScreenTalk x = new ScreenTalk();
        for (int l = 0; l < 4; l++) {
            Say.due("LOSS and SLOW 0 at first", x, "level(" + l + ", 0)", 0, "level(" + l + ", 1)", 0);
        }
        for (int what = 0; what < 8; what++) {
            Say.due("no TRAINING at first", x, "state(" + what + ")", 0);
        }
        Say.due("no TRAINING at first", x, "tries(1)", -5, "shown(0)", -5, "fall(0, 0)", -2, "step(0, 0)", -2);
    }

    /** Promise 2: "-4: it would have more than 520." */
    private static void feedUpTo520() {
        ScreenTalk x = new ScreenTalk();
        for (int i = 1; i <= 25; i++) {
            x.feed(0, 0, 0, 0, 0);
        }
        Say.due("2 more than 520", x, "count(1)", 500, "feed(1, 2, 3, 4, 5)", 520, "feed(6, 7, 8, 9, 10)", -4,
            "count(1)", 520, "feed(0, 0, 0, 0, 0)", -4, "load(520)", -31, "fault(1)", 520, "count(1)", 0,
            "feed(0, 0, 0, 0, 0)", 20);
    }

    /** Promise 2: "the highest of each int first", the least and the greatest int, too. */
    private static void feedHighestFirst() {
        int[] ints = {Integer.MIN_VALUE, Integer.MAX_VALUE, -1, 0x01020304, 0xFEDCBA98};
        int[] bytes = {128, 0, 0, 0, 127, 255, 255, 255, 255, 255, 255, 255, 1, 2, 3, 4, 0xFE, 0xDC, 0xBA, 0x98};
        ScreenTalk x = new ScreenTalk();
        x.feed(ints[0], ints[1], ints[2], ints[3], ints[4]);
        for (int i = 0; i < 6; i++) {
            x.feed(0, 0, 0, 0, 0);
        }
        x.load(128);
        int sum = 0;
        for (int b : bytes) {
            sum += b;
        }
        for (int i = 0; i < 20; i++) {
            Say.due("2 the highest first", x, "mend(" + i + ")", bytes[i] - sum & 255);
        }
        Say.due("2 behind those", x, "mend(20)", -sum & 255, "mend(127)", -sum & 255);
    }

    /** Promise 3: "-3: n is below 0, above what there is (THE TAPE stays)". */
    private static void loadOfWhatThereIs() {
        Say.due("3 of an empty tape", new ScreenTalk(), "load(-1)", -3, "load(MIN)", -3, "load(1)", -3, "load(MAX)", -3,
            "load(0)", -31);
        ScreenTalk x = new ScreenTalk();
        x.feed(1, 2, 3, 4, 5);
        Say.due("3 the tape stays", x, "load(-1)", -3, "count(1)", 20, "load(MIN)", -3, "count(1)", 20,
            "load(21)", -3, "count(1)", 20, "load(MAX)", -3, "count(1)", 20, "fault(0)", 0, "fault(1)", -1,
            "load(20)", -31, "count(1)", 0, "fault(1)", 20);
        x = new ScreenTalk();
        new Blocks(0).sealed().fed(x);
        Say.due("3 the bytes stay, too", x, "load(141)", -3, "load(-1)", -3, "load(128)", 0);
        for (int i = 0; i < 26; i++) {
            x.feed(0, 0, 0, 0, 0);
        }
        Say.due("3 of a full tape", x, "load(521)", -3, "count(1)", 520, "load(520)", -31);
    }

    /** Promise 3: "The first n bytes of THE TAPE (which is empty then)": those behind them are gone. */
    private static void tapeIsEmptyThen() {
        ScreenTalk x = new ScreenTalk();
        new Blocks(0).sealed().fed(x);
        new Blocks(0).sealed().fed(x);
        Say.due("3 empty then", x, "count(1)", 280, "load(128)", 0, "count(1)", 0, "load(1)", -3, "load(128)", -3);
        new Blocks(0).sealed().fed(x);
        Say.due("3 by a FAULT, too", x, "load(1)", -31, "count(1)", 0, "load(128)", -3, "count(0)", 1);
    }

    /** FAULT 1: "they aren't 1 to 4 BLOCKS (place: how many bytes)". */
    private static void oneToFourBlocks() {
        for (int n = 0; n <= 520; n++) {
            int blocks = Math.max(1, Math.min(4, n / 128));
            boolean whole = n == 128 || n == 256 || n == 384 || n == 512;
            ScreenTalk x = new ScreenTalk();
            new Blocks(blocks - 1).sealed().fed(x);
            while (x.count(1) < n) {
                x.feed(0, 0, 0, 0, 0);
            }
            Say.due("FAULT 1", x, "load(" + n + ")", whole ? 0 : -31, "fault(0)", whole ? 0 : 1,
                "fault(1)", whole ? -1 : n, "count(0)", whole ? blocks : 0, "count(1)", 0);
        }
    }

    private static void faulty(String what, Blocks blocks, int kind, int place) {
        ScreenTalk x = new ScreenTalk();
        Due.due(what + ": load", blocks.load(x), kind == 0 ? 0 : -30 - kind);
        Say.due(what, x, "fault(0)", kind, "fault(1)", place, "count(1)", 0,
            "count(0)", kind == 0 ? blocks.bytes.length / 128 : 0);
    }

    /** FAULT 2: "b0 to b7 are 0, 255 six times, 0" and "(the first byte that isn't so)". */
    private static void headOfTheBase() {
        faulty("2 as it is due", new Blocks(0).sealed(), 0, -1);
        for (int i = 0; i < 8; i++) {
            boolean end = i == 0 || i == 7;
            for (int wrong : end ? new int[] {1, 2, 255} : new int[] {254, 0, 127}) {
                faulty("2 b" + i + " is " + wrong, new Blocks(0).set(i, wrong).sealed(), 2, i);
            }
            for (int j = i + 1; j < 8; j++) {
                faulty("2 b" + i + " ahead of b" + j, new Blocks(0).set(i, 3).set(j, 3).sealed(), 2, i);
            }
        }
        faulty("2 b8 is another thing", new Blocks(0).set(8, 255, 255).sealed(), 0, -1);
    }

    /** FAULT 2: "b0 of an EXTENSION that isn't 2". */
    private static void headOfAnExtension() {
        for (int e = 1; e <= 3; e++) {
            for (int first : new int[] {0, 1, 3, 130, 255}) {
                faulty("2 b0 of an EXTENSION is " + first, new Blocks(3).set(128 * e, first).sealed(), 2, 128 * e);
            }
            faulty("2 b1, b3 are another thing", new Blocks(3).set(128 * e, 2, 255, 0, 255).sealed(), 0, -1);
        }
    }

    /** FAULT 3: "those of each are together a multiple of 256", its place "(its b127)". */
    private static void sums() {
        for (int block = 0; block < 4; block++) {
            for (int more : new int[] {1, 2, 128, 254, 255}) {
                Blocks blocks = new Blocks(3).sealed();
                int last = 128 * block + 127;
                blocks.set(last, blocks.bytes[last] + more & 255);
                faulty("3 sum and " + more + " of block " + block, blocks, 3, last);
            }
        }
        Blocks zero = new Blocks(1).sealed();
        Due.due("a b127 of 0", zero.set(131, 251).sealed().bytes[255], 0);
        faulty("3 a sum of just 256", zero, 0, -1);
        faulty("3 a sum of 255", zero.set(131, 250), 3, 255);
        faulty("3 a sum of 257", zero.set(131, 252), 3, 255);
        Blocks many = new Blocks(1);
        for (int i = 4; i < 127; i++) {
            many.set(128 + i, 255);
        }
        faulty("3 a sum of many times 256", many.sealed(), 0, -1);
        // what is too much in one block isn't made good by another
        Blocks two = new Blocks(1).sealed();
        faulty("3 each for itself", two.set(127, two.bytes[127] + 1).set(255, two.bytes[255] - 1), 3, 127);
    }

    /** FAULT 4: "b18 isn't 1". */
    private static void version() {
        for (int b18 : new int[] {0, 2, 3, 129, 255}) {
            faulty("4 b18 is " + b18, new Blocks(0).set(18, b18).sealed(), 4, 18);
        }
        faulty("4 b19 is another thing", new Blocks(0).set(17, 255).set(19, 255).sealed(), 0, -1);
    }

    /** FAULT 5: "b126 isn't how many EXTENSIONS come". */
    private static void howManyExtensions() {
        for (int come = 0; come <= 3; come++) {
            for (int told : new int[] {0, 1, 2, 3, 4, 128, 255}) {
                faulty("5 " + told + " of " + come, new Blocks(come).set(126, told).sealed(), told == come ? 0 : 5,
                    told == come ? -1 : 126);
            }
        }
    }

    /** FAULT 6: "b2 END: 0, or 4 to 127", its place "(its b2)". */
    private static void end() {
        for (int e = 1; e <= 3; e++) {
            for (int end : new int[] {0, 1, 2, 3, 4, 5, 126, 127, 128, 129, 255}) {
                boolean right = end == 0 || end >= 4 && end <= 127;
                int place = 128 * e + 2;
                faulty("6 END " + end, new Blocks(3).set(place, end).sealed(), right ? 0 : 6, right ? -1 : place);
            }
        }
    }

    /** FAULT 7: "DATA from b4 on to the one ahead of END": a last head whose bytes end just there, or one behind. */
    private static void dataUpToEnd() {
        for (int end = 5; end <= 127; end++) {
            for (int length = 0; length <= 31; length++) {
                int head = end - 1 - length;
                if (head >= 4) {
                    faulty("7 END " + end + ", LENGTH " + length + " ends ahead of it",
                        new Blocks(1).set(130, end).set(128 + head, length).sealed(), 0, -1);
                }
                if (head >= 3 && length > 0) {
                    faulty("7 END " + end + ", LENGTH " + length + " ends at it",
                        new Blocks(1).set(130, end).set(129 + head, length).sealed(), 7, 129 + head);
                }
            }
        }
    }

    /** FAULT 7: "DATA that go beyond END (the head)": one byte too many, of each KIND, behind others. */
    private static void dataBeyondEnd() {
        for (int kind = 0; kind < 8; kind++) {
            faulty("7 of KIND " + kind, new Blocks(1).data(1, 1, 0, kind * 32 + 3, 5, 5).sealed(), 7, 134);
            faulty("7 none of KIND " + kind, new Blocks(1).data(1, 1, 0, kind * 32 + 2, 5, 5).sealed(), 0, -1);
        }
        faulty("7 a head alone", new Blocks(1).data(1, 1).sealed(), 7, 132);
        faulty("7 a head of none", new Blocks(1).data(1, 0).sealed(), 0, -1);
        faulty("7 END 4 has no head", new Blocks(1).set(130, 4, 0, 31).sealed(), 0, -1);
        faulty("7 END 0 has no head", new Blocks(1).set(130, 0, 0, 31).sealed(), 0, -1);
        faulty("7 b3 is no head", new Blocks(1).data(1, 0).set(131, 255).sealed(), 0, -1);
        faulty("7 up to b126", new Blocks(1).set(130, 127).set(128 + 95, 31).sealed(), 0, -1);
        faulty("7 beyond b126", new Blocks(1).set(130, 127).set(128 + 96, 31).sealed(), 7, 128 + 96);
        faulty("7 the first head of two", new Blocks(1).data(1, 0, 9, 9).sealed(), 7, 133);
    }

    /** "the first in this order": each FAULT together with each that comes behind it. */
    private static void firstFault() {
        int[] places = {0, 0, 3, 127, 18, 126, 130, 260};
        for (int first = 2; first <= 7; first++) {
            for (int second = first + 1; second <= 7; second++) {
                Blocks blocks = wrong(wrong(new Blocks(2), second), first).sealed();
                if (first == 3 || second == 3) {
                    blocks.set(127, blocks.bytes[127] + 1 & 255);
                }
                faulty(first + " ahead of " + second, blocks, first, places[first]);
            }
        }
        ScreenTalk x = new ScreenTalk();
        wrong(wrong(new Blocks(1), 2), 4).fed(x);
        Say.due("1 ahead of all", x, "load(255)", -31, "fault(1)", 255);
    }

    private static Blocks wrong(Blocks blocks, int kind) {
        switch (kind) {
            case 2: return blocks.set(3, 0);
            case 4: return blocks.set(18, 2);
            case 5: return blocks.set(126, 1);
            case 6: return blocks.set(130, 3);
            case 7: return blocks.data(2, 1);
            default: return blocks;
        }
    }

    /** "then BLOCK by BLOCK: 2 ..; 3 ..": the sum of one comes ahead of the head of the next. */
    private static void blockByBlock() {
        for (int block = 1; block < 4; block++) {
            Blocks blocks = new Blocks(3).set(128 * block, 1).sealed();
            faulty("2 of block " + block, blocks, 2, 128 * block);
            int last = 128 * block - 1;
            faulty("3 of the block ahead", blocks.set(last, blocks.bytes[last] ^ 1), 3, last);
            Blocks later = new Blocks(3).set(128 * block, 1).sealed();
            later.set(128 * block + 127, later.bytes[128 * block + 127] ^ 1);
            faulty("2 ahead of 3 of the same", later, 2, 128 * block);
        }
        Blocks sum = new Blocks(3).set(18, 0).sealed();
        faulty("3 of the last block ahead of 4", sum.set(511, sum.bytes[511] ^ 1), 3, 511);
        faulty("2 of the last block ahead of 4", new Blocks(3).set(18, 0).set(384, 1).sealed(), 2, 384);
    }

    /** "then EXTENSION by EXTENSION: 6 ..; 7 ..": 7 of one comes ahead of 6 of the next. */
    private static void extensionByExtension() {
        faulty("7 ahead of 6 of the next", new Blocks(2).data(1, 5).set(258, 3).sealed(), 7, 132);
        faulty("6 ahead of 7 of the next", new Blocks(2).set(130, 3).data(2, 5).sealed(), 6, 130);
        faulty("6 of the last", new Blocks(3).set(386, 2).sealed(), 6, 386);
        faulty("7 of the last", new Blocks(3).data(3, 5).sealed(), 7, 388);
        // an END that can't be has no DATA that go beyond it
        faulty("6 ahead of 7 of the same", new Blocks(1).set(130, 128, 0, 31).sealed(), 6, 130);
    }

    /** Promise 4: "Of the latest load() that took bytes"; "its FAULT (0)", "its place (NONE)"; "NONE for others". */
    private static void faultOfTheLatestLoad() {
        ScreenTalk x = new ScreenTalk();
        Say.due("4 none as yet", x, "fault(0)", 0, "fault(1)", -1);
        new Blocks(0).set(18, 7).sealed().fed(x);
        Say.due("4 one that is refused takes none", x, "load(MAX)", -3, "fault(0)", 0, "fault(1)", -1,
            "load(128)", -34, "fault(0)", 4, "fault(1)", 18, "load(1)", -3, "load(-1)", -3, "fault(0)", 4, "fault(1)", 18);
        new Blocks(0).sealed().fed(x);
        Say.due("4 feeding doesn't count", x, "fault(0)", 4, "load(128)", 0, "fault(0)", 0, "fault(1)", -1);
        Say.due("4 none at all", x, "load(0)", -31, "fault(0)", 1, "fault(1)", 0);
        Say.due("4 NONE for others", x, "fault(-1)", -1, "fault(2)", -1, "fault(MIN)", -1, "fault(MAX)", -1);
    }

    /** Promise 5: "NONE: there was none such place in a whole BLOCK; -3: i is below 0." */
    private static void mendInWholeBlocks() {
        ScreenTalk x = new ScreenTalk();
        Say.due("5 none as yet", x, "mend(-1)", -3, "mend(MIN)", -3, "mend(0)", -1, "mend(MAX)", -1);
        for (int n : new int[] {0, 1, 127, 128, 129, 255, 256, 383, 384, 511, 512, 513, 520}) {
            for (int i = 0; i < 26; i++) {
                x.feed(0, 0, 0, 0, 0);
            }
            x.load(n);
            int whole = n / 128 * 128;
            if (whole > 0) {
                Say.due("5 of " + n, x, "mend(0)", 0, "mend(" + (whole - 1) + ")", 0);
            }
            Say.due("5 of " + n, x, "mend(" + whole + ")", -1, "mend(" + n + ")", -1, "mend(520)", -1, "mend(MAX)", -1,
                "mend(-1)", -3, "mend(MIN)", -3);
        }
    }

    /** Promise 5: "0 to 255": the least and the greatest byte that mends. */
    private static void mendOfAnySum() {
        for (int sum = 0; sum < 256; sum++) {
            ScreenTalk x = new ScreenTalk();
            Blocks blocks = new Blocks(0).sealed();
            blocks.set(100, sum);
            blocks.load(x);
            Say.due("5 a byte that is " + sum + " too great", x, "mend(100)", 0, "mend(99)", -sum & 255,
                "mend(0)", -sum & 255, "mend(127)", blocks.bytes[127] - sum & 255);
            x = new ScreenTalk();
            blocks = new Blocks(0).set(100, sum).sealed();
            blocks.load(x);
            Say.due("5 a right one of " + sum, x, "mend(100)", sum, "mend(99)", 0, "mend(127)", blocks.bytes[127]);
        }
    }

    /** Promise 5: "of the latest bytes that load() took, right or not". */
    private static void mendRightOrNot() {
        ScreenTalk x = new ScreenTalk();
        Blocks right = new Blocks(1).sealed().fed(x);
        Say.due("5 the tape isn't taken yet", x, "mend(1)", -1, "load(257)", -31, "mend(1)", 255, "mend(256)", -1);
        right.fed(x);
        Say.due("5 right", x, "load(256)", 0, "mend(1)", 255, "mend(128)", 2);
        new Blocks(1).set(18, 9).set(2, 7).fed(x);
        Say.due("5 not right", x, "mend(1)", 255, "load(256)", -32, "mend(18)", 9 - sumOf(9, 7) & 255,
            "mend(2)", 7 - sumOf(9, 7) & 255, "mend(128)", 256 - 3, "mend(129)", 256 - 2);
        Say.due("5 a refused one takes none", x, "load(1)", -3, "mend(18)", 9 - sumOf(9, 7) & 255,
            "load(0)", -31, "mend(18)", -1);
    }

    /** The sum of a base of Blocks(1) whose b127 is 0, with other bytes b18 and b2. */
    private static int sumOf(int b18, int b2) {
        return 5 * 255 + b2 + 4 + 67 + b18 + 1;
    }
}
