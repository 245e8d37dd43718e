/** The edges of what is told on paper: trained, margin, laid, enough, would; and of count. */
public final class PaperEdgesTest {
    public static void main(String[] args) {
        trainedNumbers();
        trainedUpAndDown();
        trainedInEveryPhase();
        marginNumbers();
        marginAtItsEnds();
        marginOfNoLess();
        laidNumbers();
        laidByTheLeastNumber();
        enoughAtItsEnds();
        wouldNumbers();
        wouldOfRoom();
        counts();
        Due.end();
    }

    private static ScreenTalk wired(int lanes, int rate, int... losses) {
        ScreenTalk x = new ScreenTalk();
        for (int l = 0; l < losses.length; l++) {
            x.lane(l, losses[l], 0);
        }
        x.wire(lanes, rate);
        return x;
    }

    /** Promise 30: "-2: another what." */
    private static void trainedNumbers() {
        Say.due("30 what", new ScreenTalk(), "trained(0)", 3, "trained(5)", 17280000, "trained(6)", -2, "trained(-1)", -2,
            "trained(MIN)", -2, "trained(MAX)", -2);
    }

    /** Promise 30: "0 PHASE (3, 4), 1 LANES, 2 RATE (as they are at the end), .. 5 ROOM (0: DOWN)". */
    private static void trainedUpAndDown() {
        Say.due("30 LOSS 23 of RATE 0 is UP", wired(1, 0, 23), "trained(0)", 3, "trained(1)", 1, "trained(2)", 0,
            "trained(3)", 5, "trained(4)", 0, "trained(5)", 1296000);
        Say.due("30 LOSS 24 is DOWN", wired(1, 0, 24), "trained(0)", 4, "trained(1)", 1, "trained(2)", 0, "trained(3)", 6,
            "trained(4)", 1, "trained(5)", 0);
        Say.due("30 LOSS 30 of four lanes is DOWN", wired(4, 3, 30), "trained(0)", 4, "trained(1)", 1, "trained(2)", 0,
            "trained(3)", 48, "trained(4)", 12, "trained(5)", 0);
        // more TRIES than tries() makes at once
        ScreenTalk x = wired(4, 3, 23);
        x.lane(0, 23, 12);
        Say.due("30 117 TRIES", x, "trained(0)", 4, "trained(3)", 117, "trained(4)", 12, "trained(5)", 0);
        // 4 lanes of RATE 3 without any LOSS
        Say.due("30 all of it", wired(4, 3), "trained(0)", 3, "trained(1)", 4, "trained(2)", 3, "trained(3)", 5, "trained(4)", 0,
            "trained(5)", 25920000);
    }

    /** "Were it trained anew": whatever PHASE it is in, and it stays in it. */
    private static void trainedInEveryPhase() {
        for (int n = 0; n <= 60; n++) {
            ScreenTalk x = wired(4, 3, 23, 6, 9, 14);
            if (n > 0) {
                x.begin();
                x.tries(n);
            }
            ScreenTalk y = wired(4, 3, 23, 6, 9, 14);
            int phase = x.state(0);
            int tries = x.state(4);
            for (int what = 0; what < 6; what++) {
                Say.due("30 after " + n + " TRIES", x, "trained(" + what + ")", y.trained(what));
            }
            Say.due("30 after " + n + " TRIES", x, "margin(1)", y.margin(1), "laid(0)", y.laid(0), "laid(1)", y.laid(1),
                "enough()", y.enough(), "would(0)", -1, "state(0)", phase, "state(4)", tries);
        }
    }

    /** Promise 31: "-2." */
    private static void marginNumbers() {
        Say.due("31", new ScreenTalk(), "margin(-1)", -2, "margin(4)", -2, "margin(MIN)", -2, "margin(MAX)", -2);
        // at RATE 2 EMPHASIS 3 evens LOSS 15, but SWING 1 is gone by it then: 10 and no more
        for (int l = 0; l < 4; l++) {
            Say.due("31 lanes 0 to 3", new ScreenTalk(), "margin(" + l + ")", 10);
        }
    }

    /** Promise 31: "The greatest LOSS (0 to 30)". */
    private static void marginAtItsEnds() {
        Say.due("31 it has it already", wired(1, 2, 10), "margin(0)", 10);
        Say.due("31 it may lose more", wired(1, 2, 9), "margin(0)", 10);
        Say.due("31 none at all", wired(1, 2, 0), "margin(0)", 10);
        Say.due("31 DOWN comes to no less than 0", wired(1, 0, 24), "margin(0)", 30, "margin(1)", 30);
        Say.due("31 30 already", wired(1, 0, 30), "margin(0)", 30);
        Say.due("31 beyond the WIRE", wired(2, 0), "margin(1)", 23, "margin(2)", 30, "margin(3)", 30);
        Say.due("31 another lane is DOWN", wired(4, 0, 30), "margin(3)", 30);
    }

    /** Promise 31: "no less ROOM than it does": by less LOSS it would come to more, that doesn't count. */
    private static void marginOfNoLess() {
        // RATE 3 wants LOSS 5 at most; of RATE 2 after it 10 at most; of RATE 1 17, of RATE 0 23
        int[][] rows = {{5, 5, 6480000}, {6, 10, 4320000}, {10, 10, 4320000}, {11, 17, 2160000}, {17, 17, 2160000},
            {18, 23, 1296000}, {23, 23, 1296000}, {24, 30, 0}};
        for (int[] r : rows) {
            Say.due("31 LOSS " + r[0], wired(1, 3, r[0]), "trained(5)", r[2], "margin(0)", r[1]);
        }
    }

    /** Promise 32: "-2: another what." */
    private static void laidNumbers() {
        Say.due("32", new ScreenTalk(), "laid(0)", 17280000, "laid(1)", 123, "laid(2)", -2, "laid(-1)", -2, "laid(MIN)", -2,
            "laid(MAX)", -2);
    }

    /** Promise 32: "that order, the least number (..; 123: as they are)". */
    private static void laidByTheLeastNumber() {
        Say.due("32 all alike", wired(4, 2, 3, 3, 3, 3), "laid(1)", 123);
        Say.due("32 as they are is best", wired(2, 2, 0, 0, 30, 30), "laid(1)", 123, "laid(0)", 8640000);
        Say.due("32 the first is worst", wired(1, 2, 30, 0, 0, 0), "laid(1)", 1023, "laid(0)", 4320000);
        Say.due("32 the last alone is good", wired(1, 2, 30, 30, 30, 0), "laid(1)", 3012, "laid(0)", 4320000);
        Say.due("32 the last two", wired(2, 2, 30, 30, 0, 0), "laid(1)", 2301, "laid(0)", 8640000);
        Say.due("32 the outer two", wired(2, 2, 0, 30, 30, 0), "laid(1)", 312, "laid(0)", 8640000);
        // four lanes have lane 0 among them in any order, two don't
        Say.due("32 two of four", wired(4, 2, 30, 0, 0, 0), "laid(1)", 1203, "laid(0)", 8640000);
        Say.due("32 all DOWN", wired(4, 3, 30, 30, 30, 30), "laid(1)", 123, "laid(0)", 0);
        // SLOW goes with its LOSS: lane 0 is too slow ever to be CLOCKED
        ScreenTalk x = wired(1, 2);
        x.lane(0, 0, 12);
        Say.due("32 a slow one", x, "trained(0)", 4, "laid(1)", 1023, "laid(0)", 4320000);
    }

    /** Promise 33: "The least RATE of the WIRE .. with which trained() comes to no less ROOM." */
    private static void enoughAtItsEnds() {
        for (int rate = 0; rate <= 3; rate++) {
            Say.due("33 without LOSS", wired(4, rate), "enough()", rate);
            Say.due("33 DOWN anyway", wired(4, rate, 30), "enough()", 0);
        }
        int[][] rows = {{5, 3}, {6, 2}, {10, 2}, {11, 1}, {17, 1}, {18, 0}, {23, 0}, {24, 0}};
        for (int[] r : rows) {
            Say.due("33 LOSS " + r[0], wired(1, 3, r[0]), "enough()", r[1], "count(4)", 3, "count(3)", 1);
        }
    }

    /** Promise 34: "NONE: none is CARRIED, it is DOWN; -2: what." */
    private static void wouldNumbers() {
        Say.due("34 no MODES", new ScreenTalk(), "would(0)", -1, "would(1)", -1, "would(2)", -2, "would(-1)", -2,
            "would(MIN)", -2, "would(MAX)", -2);
        ScreenTalk x = wired(1, 0, 30);
        new Blocks(1).data(1, 0x41, 1).loadSealed(x);
        Say.due("34 DOWN", x, "would(0)", -1, "would(1)", -1, "would(2)", -2, "would(-1)", -2);
        x.lane(0, 23, 0);
        Say.due("34 UP", x, "would(0)", 0, "would(1)", 8, "would(2)", -2, "would(-1)", -2);
    }

    /** A MODE that needs all ROOM of the end is CARRIED, one of 10 kHz more isn't. */
    private static void wouldOfRoom() {
        for (int more = 0; more < 2; more++) {
            // a WIRE of RATE 3 comes to RATE 0 by LOSS 18
            ScreenTalk x = wired(1, 3, 18);
            new Blocks(0).detailed(54, 7200 + more, 1000, 0, 0, 0, 1000, 0, 0, 0).loadSealed(x);
            Say.due("34 ROOM and " + more, x, "would(0)", -more, "would(1)", more == 0 ? 6 : -1);
        }
    }

    /** Promise 35: "0 BLOCKS, 1 bytes on THE TAPE, 2 WISH, 3 lanes of the WIRE, 4 its RATE. NONE for others." */
    private static void counts() {
        ScreenTalk x = new ScreenTalk();
        Say.due("35 at first", x, "count(0)", 0, "count(1)", 0, "count(2)", 8, "count(3)", 4, "count(4)", 2);
        Say.due("35 NONE for others", x, "count(-1)", -1, "count(5)", -1, "count(MIN)", -1, "count(MAX)", -1);
        for (int i = 0; i < 26; i++) {
            x.feed(0, 0, 0, 0, 0);
        }
        Say.due("35 a full tape", x, "count(1)", 520, "load(512)", -32, "count(1)", 0, "count(0)", 0);
        for (int e = 0; e <= 3; e++) {
            new Blocks(e).loadSealed(x);
            Say.due("35 BLOCKS", x, "count(0)", e + 1, "count(1)", 0);
        }
        Say.due("35 the ends", x, "wish(12)", 8, "count(2)", 12, "wish(6)", 12, "count(2)", 6, "wire(1, 0)", 1296000,
            "count(3)", 1, "count(4)", 0, "wire(4, 3)", 25920000, "count(3)", 4, "count(4)", 3, "count(5)", -1);
    }
}
