/** The edges of TRAINING: LOSS, SLOW, the WIRE, both ladders, how often it is tried, and how it FALLS. */
public final class TrainingEdgesTest {
    public static void main(String[] args) {
        lossAndSlow();
        wires();
        beginAtTheFoot();
        swingIsEnough();
        triedMoreThanSlow();
        fallBySwing3();
        seventhTry();
        tenthTry();
        emphasisIsEnough();
        evenMoreThanSlowLess2();
        sixthTry();
        fallBy4AheadOfOthers();
        emphasis3();
        swingOneLessAbove3();
        lanesOfTheFirst();
        fallsFromPhase1();
        fallsFromPhase2();
        downFromBoth();
        mostFalls();
        overWhenTold();
        bytesDontTouchIt();
        triesTaken();
        triesNow();
        stateNumbers();
        stateOfEachPhase();
        levelNumbers();
        levelOfEachPhase();
        fallNumbers();
        stepNumbers();
        shownNow();
        shownNumbers();
        shownOfRoom();
        Due.end();
    }

    /** One lane of a LOSS and a SLOW, on a WIRE of one lane of a RATE, that BEGAN. */
    private static ScreenTalk begun(int loss, int slow, int rate) {
        ScreenTalk x = new ScreenTalk();
        x.lane(0, loss, slow);
        x.wire(1, rate);
        x.begin();
        return x;
    }

    private static ScreenTalk tried(int loss, int slow, int rate, int tries) {
        ScreenTalk x = begun(loss, slow, rate);
        Due.due("so many TRIES", x.tries(tries), tries);
        return x;
    }

    /** "each with LOSS 0 to 30 and SLOW 0 to 12"; promise 21: "LOSS it had. -2; -3." */
    private static void lossAndSlow() {
        for (int l = 0; l < 4; l++) {
            ScreenTalk x = new ScreenTalk();
            String lane = "lane(" + l + ", ";
            Say.due("21 taken", x, lane + "0, 0)", 0, lane + "30, 0)", 0, lane + "0, 12)", 30, lane + "30, 12)", 0,
                lane + "1, 1)", 30, lane + "2, 2)", 1);
            Say.due("21 refused", x, lane + "-1, 0)", -3, lane + "31, 0)", -3, lane + "0, -1)", -3, lane + "0, 13)", -3,
                lane + "MIN, 0)", -3, lane + "MAX, 0)", -3, lane + "0, MIN)", -3, lane + "0, MAX)", -3, lane + "31, 13)", -3);
            for (int other = 0; other < 4; other++) {
                Say.due("21 of that lane alone", x, "level(" + other + ", 0)", other == l ? 2 : 0,
                    "level(" + other + ", 1)", other == l ? 2 : 0);
            }
        }
        Say.due("21 LANES 0 to 3", new ScreenTalk(), "lane(-1, 0, 0)", -2, "lane(4, 0, 0)", -2, "lane(MIN, 0, 0)", -2,
            "lane(MAX, 0, 0)", -2);
        Say.due("21 -2 ahead of -3", new ScreenTalk(), "lane(4, 31, 13)", -2, "lane(-1, -1, -1)", -2, "lane(4, 31, 0)", -2);
    }

    /** Promise 22: "ROOM of it. -3: lanes aren't 1, 2, 4, RATE isn't 0 to 3." */
    private static void wires() {
        ScreenTalk x = new ScreenTalk();
        Say.due("22 taken", x, "wire(1, 0)", 1296000, "count(3)", 1, "count(4)", 0, "wire(4, 3)", 25920000, "count(3)", 4,
            "count(4)", 3, "wire(1, 3)", 6480000, "wire(4, 0)", 5184000, "wire(2, 1)", 4320000);
        for (int lanes : new int[] {-4, -1, 0, 3, 5, 6, 7, 8, 16, Integer.MIN_VALUE, Integer.MAX_VALUE}) {
            Say.due("22 lanes", x, "wire(" + lanes + ", 0)", -3, "wire(" + lanes + ", 4)", -3);
        }
        Say.due("22 RATE", x, "wire(1, -1)", -3, "wire(2, 4)", -3, "wire(4, MIN)", -3, "wire(4, MAX)", -3);
        Say.due("22 as it was", x, "count(3)", 2, "count(4)", 1);
    }

    /** "TRAINING BEGINS: PHASE 1, LANES and RATE as the WIRE has, both ladders at the foot; no TRY, no FALL." */
    private static void beginAtTheFoot() {
        for (int before = 0; before <= 40; before++) {
            ScreenTalk x = new ScreenTalk();
            x.lane(0, 30, 0);
            x.lane(3, 20, 2);
            if (before > 0) {
                x.begin();
                x.tries(before);
            }
            Say.due("23 after " + before + " TRIES", x, "begin()", 17280000, "state(0)", 1, "state(1)", 4, "state(2)", 2,
                "state(3)", 0, "state(4)", 0, "state(5)", 0, "state(6)", 0, "state(7)", 0, "fall(0, 0)", -2, "step(0, 0)", -2);
            for (int l = 0; l < 4; l++) {
                Say.due("23 at the foot", x, "level(" + l + ", 2)", 0, "level(" + l + ", 3)", 0, "level(" + l + ", 4)", 0,
                    "level(" + l + ", 5)", 0);
            }
            Say.due("23 the first TRY", x, "tries(1)", 1, "step(0, 3)", 0, "step(0, 4)", 0, "step(0, 6)", 0, "step(1, 0)", -2);
        }
    }

    /** "if 5 times SWING and 14 is no less than LOSS and 2 times RATE": just as much, and one more, of each SWING. */
    private static void swingIsEnough() {
        for (int rate = 0; rate <= 3; rate++) {
            for (int swing = 0; swing <= 3; swing++) {
                int loss = 5 * swing + 14 - 2 * rate;
                ScreenTalk x = tried(loss, 0, rate, swing + 1);
                Say.due("SWING " + swing + " of LOSS " + loss, x, "state(0)", 2, "state(6)", swing, "level(0, 4)", 1,
                    "step(" + swing + ", 6)", 7, "step(" + swing + ", 3)", 1000 * swing, "step(" + swing + ", 5)", 1);
                x = tried(loss + 1, 0, rate, swing + 1);
                Say.due("SWING " + swing + " of LOSS " + (loss + 1), x, "step(" + swing + ", 6)", swing == 3 ? 1 : 0,
                    "step(" + swing + ", 5)", 0, "level(0, 2)", swing == 3 ? 0 : swing + 1, "level(0, 4)", 0,
                    "state(0)", swing == 3 && rate == 0 ? 4 : 1, "state(5)", swing == 3 ? 1 : 0);
            }
        }
    }

    /** "and it was TRIED more than SLOW times (this TRY, too) since the ladders were at the foot". */
    private static void triedMoreThanSlow() {
        for (int slow = 0; slow <= 6; slow++) {
            ScreenTalk x = tried(0, slow, 0, slow + 1);
            Say.due("SLOW " + slow, x, "state(0)", 2, "step(" + slow + ", 6)", 7, "step(" + slow + ", 5)", 1, "state(3)", 0);
            if (slow > 0) {
                x = tried(0, slow, 0, slow);
                Say.due("SLOW " + slow + ", one TRY less", x, "state(0)", 1, "level(0, 4)", 0, "state(3)", slow,
                    "step(" + (slow - 1) + ", 6)", 0, "step(" + (slow - 1) + ", 5)", 0);
            }
        }
        // after a FALL the TRIES count anew: by 3 at the 7th of RATE 1, then again at the 7th of RATE 0
        ScreenTalk x = tried(0, 7, 1, 14);
        Say.due("since the foot", x, "fall(0, 0)", 3, "fall(0, 3)", 7, "fall(1, 0)", 3, "fall(1, 3)", 7, "state(0)", 4);
    }

    /** "1 a lane that isn't CLOCKED for want of SWING .. has SWING 3": by the 4th TRY, not by the 3rd. */
    private static void fallBySwing3() {
        ScreenTalk x = tried(30, 0, 0, 3);
        Say.due("by 1, ahead of it", x, "state(0)", 1, "level(0, 2)", 3, "state(3)", 3, "state(5)", 0);
        Say.due("by 1", x, "tries(1)", 1, "fall(0, 0)", 1, "fall(0, 3)", 4, "step(3, 3)", 3000, "step(3, 6)", 1);
        // SWING 3 of a lane that is CLOCKED by it, but slow, is no want
        x = tried(29, 9, 0, 9);
        Say.due("SWING 3 without want", x, "state(0)", 1, "level(0, 2)", 3, "state(5)", 0, "tries(1)", 1, "state(0)", 2);
        // one lane of four is enough, the last, too
        x = new ScreenTalk();
        x.lane(3, 27, 0);
        x.begin();
        x.tries(4);
        Say.due("by 1 of lane 3", x, "fall(0, 0)", 1, "fall(0, 1)", 4, "fall(0, 2)", 2, "step(3, 3)", 3, "step(3, 5)", 7);
    }

    /** "3 it is the 7th TRY (this one, too) since a SWING changed, or since the foot." */
    private static void seventhTry() {
        int[] losses = {14, 19, 24};
        for (int changes = 0; changes < 3; changes++) {
            int last = 7 + changes;
            ScreenTalk x = tried(losses[changes], last - 1, 0, last);
            Say.due("CLOCKED by the 7th since", x, "state(0)", 2, "state(6)", changes, "state(5)", 0);
            x = tried(losses[changes], last, 0, last - 1);
            Say.due("the 6th since", x, "state(0)", 1, "state(3)", last - 1, "state(5)", 0);
            Say.due("by 3", x, "tries(1)", 1, "fall(0, 0)", 3, "fall(0, 3)", last, "state(0)", 4, "step(" + (last - 1) + ", 6)", 3,
                "step(" + (last - 1) + ", 5)", 0);
        }
        // another lane's SWING counts, too
        ScreenTalk x = new ScreenTalk();
        x.lane(0, 0, 12);
        x.lane(1, 19, 0);
        x.wire(2, 0);
        x.begin();
        x.tries(8);
        Say.due("another lane's SWING", x, "fall(0, 0)", 3, "fall(0, 3)", 8, "step(7, 5)", 2);
    }

    /** "2 it is the 10th TRY since the foot": it is the 7th since a SWING changed, too; 2 comes first. */
    private static void tenthTry() {
        ScreenTalk x = tried(29, 9, 0, 10);
        Say.due("CLOCKED by the 10th", x, "state(0)", 2, "state(4)", 10, "state(5)", 0, "step(9, 6)", 7);
        for (int slow = 10; slow <= 12; slow++) {
            x = tried(29, slow, 0, 9);
            Say.due("the 9th", x, "state(0)", 1, "state(3)", 9, "state(5)", 0);
            Say.due("by 2", x, "tries(1)", 1, "fall(0, 0)", 2, "fall(0, 3)", 10, "state(0)", 4, "step(9, 6)", 2,
                "step(9, 3)", 3000);
        }
    }

    /** "if 3 times EMPHASIS and 8 is less than half of LOSS (cut) and 5 times RATE": each EMPHASIS that is just enough. */
    private static void emphasisIsEnough() {
        // RATE, LOSS, EMPHASIS that evens it, SWING then
        int[][] rows = {{0, 16, 0, 1}, {0, 17, 0, 1}, {0, 18, 1, 1}, {0, 22, 1, 2}, {0, 23, 1, 2},
            {1, 6, 0, 0}, {1, 7, 0, 0}, {1, 8, 1, 0}, {1, 12, 1, 0}, {1, 13, 1, 1}, {1, 14, 2, 1}, {1, 17, 2, 1},
            {2, 0, 1, 0}, {2, 3, 1, 0}, {2, 4, 2, 0}, {2, 9, 2, 0}, {2, 10, 3, 0}, {3, 0, 3, 0}, {3, 4, 3, 0}, {3, 5, 3, 0}};
        for (int[] r : rows) {
            ScreenTalk x = begun(r[1], 0, r[0]);
            int clocked = (Math.max(0, r[1] + 2 * r[0] - 14) + 4) / 5 + 1;
            Due.due("TRIES till UP", x.tries(100), clocked + r[2] + 1);
            Say.due("EMPHASIS of LOSS " + r[1] + ", RATE " + r[0], x, "state(0)", 3, "state(5)", 0, "level(0, 3)", r[2],
                "level(0, 2)", r[3], "state(7)", r[2], "state(6)", r[3], "step(" + (clocked + r[2]) + ", 6)", 8,
                "step(" + (clocked + r[2]) + ", 4)", 1000 * r[2], "step(" + (clocked + r[2]) + ", 5)", 1);
        }
    }

    /** "and was TRIED in PHASE 2 more than SLOW less 2 times (this TRY, too)". */
    private static void evenMoreThanSlowLess2() {
        for (int slow = 0; slow <= 6; slow++) {
            int even = Math.max(1, slow - 1);
            ScreenTalk x = tried(0, slow, 0, slow + even);
            Say.due("SLOW " + slow + ", one TRY less", x, "state(0)", 2,
                "state(3)", even - 1, "level(0, 5)", 0);
            Say.due("SLOW " + slow, x, "tries(1)", 1, "state(0)", 3, "level(0, 5)", 1, "state(4)", slow + 1 + even,
                "step(" + (slow + even) + ", 6)", 8);
        }
    }

    /** "Else it FALLS by 5, if it is the 6th TRY of PHASE 2": SLOW 7 is EVEN by it, SLOW 8 isn't. */
    private static void sixthTry() {
        ScreenTalk x = tried(15, 7, 0, 8 + 5);
        Say.due("the 5th", x, "state(0)", 2, "state(3)", 5, "level(0, 5)", 0, "state(5)", 0);
        Say.due("EVEN by the 6th", x, "tries(1)", 1, "state(0)", 3, "step(13, 6)", 8);
        // LOSS 20 wants SWING 2, so that such a lane is CLOCKED by the 9th TRY
        x = tried(20, 8, 0, 9 + 5);
        Say.due("the 5th", x, "state(0)", 2, "state(3)", 5, "level(0, 5)", 0, "state(5)", 0);
        Say.due("by 5", x, "tries(1)", 1, "fall(0, 0)", 5, "fall(0, 1)", 1, "fall(0, 2)", 0, "fall(0, 3)", 6, "state(0)", 4, "step(14, 0)", 2);
    }

    /** "it FALLS by 4, if a lane isn't CLOCKED any more by its SWING": ahead of EVEN, and of 6. "(By 4 none is EVEN.)" */
    private static void fallBy4AheadOfOthers() {
        // LOSS 24 of RATE 0: SWING 2 is one less by EMPHASIS 2, with which it would be EVEN
        ScreenTalk x = tried(24, 0, 0, 3 + 2);
        Say.due("ahead of it", x, "state(0)", 2, "state(3)", 2, "level(0, 2)", 1, "level(0, 3)", 2, "state(5)", 0);
        Say.due("by 4, though EVEN", x, "tries(1)", 1, "fall(0, 0)", 4, "fall(0, 3)", 3, "step(5, 5)", 0, "step(5, 6)", 4,
            "step(5, 3)", 1000, "step(5, 4)", 2000);
        Say.due("LOSS 23 stays", tried(23, 0, 0, 3 + 2), "state(0)", 3, "level(0, 2)", 2, "level(0, 3)", 1);
        // LOSS 9 of RATE 3: SWING 1 is gone by EMPHASIS 3, which would be too little, too
        x = tried(9, 0, 3, 2 + 3);
        Say.due("ahead of it", x, "state(0)", 2, "level(0, 2)", 0, "level(0, 3)", 3);
        Say.due("by 4 ahead of 6", x, "tries(1)", 1, "fall(0, 0)", 4, "fall(0, 3)", 4);
        Say.due("by 6 without SWING", tried(8, 0, 3, 1 + 4), "fall(0, 0)", 6, "fall(0, 3)", 4);
        // the other lane, that is EVEN, isn't told so
        x = new ScreenTalk();
        x.lane(0, 24, 0);
        x.wire(2, 0);
        x.begin();
        x.tries(6);
        Say.due("none is EVEN", x, "fall(0, 0)", 4, "step(4, 5)", 2, "step(5, 5)", 0, "state(1)", 1);
    }

    /** "else by 6, if a lane that wants it has EMPHASIS 3". */
    private static void emphasis3() {
        ScreenTalk x = tried(6, 0, 3, 1 + 3);
        Say.due("ahead of it", x, "state(0)", 2, "level(0, 3)", 3, "state(3)", 3, "state(5)", 0);
        Say.due("by 6", x, "tries(1)", 1, "fall(0, 0)", 6, "fall(0, 1)", 1, "fall(0, 2)", 3, "fall(0, 3)", 4, "step(4, 4)", 3000,
            "step(4, 5)", 0);
        // EMPHASIS 3 of a lane that is EVEN by it, but slow, is no want
        x = tried(5, 6, 3, 7 + 4);
        Say.due("EMPHASIS 3 without want", x, "state(0)", 2, "level(0, 3)", 3, "tries(1)", 1, "state(0)", 3);
        // the last of four lanes
        x = new ScreenTalk();
        x.wire(4, 3);
        x.lane(3, 6, 0);
        x.begin();
        x.tries(5);
        Say.due("by 6 of lane 3", x, "fall(0, 0)", 6, "fall(0, 1)", 4, "step(4, 5)", 7, "state(1)", 2, "state(2)", 3);
    }

    /** "and if its SWING and EMPHASIS are together above 3 then, its SWING is one less": 3 isn't above, 4 is. */
    private static void swingOneLessAbove3() {
        Say.due("together 3", tried(14, 0, 1, 2 + 2), "level(0, 2)", 1, "level(0, 3)", 2);
        Say.due("together 4", tried(18, 0, 1, 3 + 2), "level(0, 2)", 1, "level(0, 3)", 2, "state(3)", 2);
        Say.due("ahead of it", tried(18, 0, 1, 3 + 1), "level(0, 2)", 2, "level(0, 3)", 1);
        Say.due("by the first EMPHASIS", tried(29, 0, 0, 4 + 1), "level(0, 2)", 2, "level(0, 3)", 1);
        // SWING 0 stays by EMPHASIS 3
        Say.due("none of SWING 0", tried(10, 0, 2, 1 + 3), "level(0, 2)", 0, "level(0, 3)", 3);
    }

    /** "lane l of the first LANES": what others lose doesn't count, nor how slow they are. */
    private static void lanesOfTheFirst() {
        for (int lanes = 1; lanes <= 4; lanes *= 2) {
            ScreenTalk x = new ScreenTalk();
            for (int l = lanes; l < 4; l++) {
                x.lane(l, 30, 12);
            }
            x.wire(lanes, 0);
            x.begin();
            Say.due("others don't count", x, "tries(100)", 2, "state(0)", 3, "state(1)", lanes, "step(0, 5)", (1 << lanes) - 1,
                "step(1, 5)", (1 << lanes) - 1);
            x = new ScreenTalk();
            x.lane(lanes - 1, 30, 0);
            x.wire(lanes, 0);
            x.begin();
            Say.due("the last of them counts", x, "tries(4)", 4, "fall(0, 0)", 1, "fall(0, 1)", lanes);
        }
    }

    private static void route(String what, ScreenTalk x, int... lanesAndRates) {
        for (int k = 0; 2 * k < lanesAndRates.length; k++) {
            Say.due(what, x, "fall(" + k + ", 1)", lanesAndRates[2 * k], "fall(" + k + ", 2)", lanesAndRates[2 * k + 1]);
        }
        Say.due(what, x, "state(5)", lanesAndRates.length / 2, "fall(" + lanesAndRates.length / 2 + ", 1)", -2);
    }

    /** "from PHASE 1: RATE is one less; if it was 0: LANES is half, RATE the WIRE's". */
    private static void fallsFromPhase1() {
        for (int rate = 0; rate <= 3; rate++) {
            ScreenTalk x = new ScreenTalk();
            x.lane(0, 30, 0);
            x.wire(2, rate);
            x.begin();
            x.tries(4 * (rate + 1));
            Say.due("RATE 0 was the last of 2 lanes", x, "state(0)", 1, "state(1)", 1, "state(2)", rate, "state(3)", 0,
                "state(5)", rate + 1, "fall(" + rate + ", 1)", 2, "fall(" + rate + ", 2)", 0);
        }
        ScreenTalk x = new ScreenTalk();
        x.lane(0, 30, 0);
        x.wire(4, 1);
        x.begin();
        x.tries(100);
        route("down by PHASE 1", x, 4, 1, 4, 0, 2, 1, 2, 0, 1, 1, 1, 0);
    }

    /** "from PHASE 2: LANES is half; if it was 1: RATE is one less." */
    private static void fallsFromPhase2() {
        // LOSS 20 is CLOCKED at every RATE up to 2, and never EVEN but at RATE 0
        ScreenTalk x = new ScreenTalk();
        x.lane(0, 20, 0);
        x.wire(4, 2);
        x.begin();
        x.tries(100);
        route("by PHASE 2", x, 4, 2, 2, 2, 1, 2, 1, 1);
        Say.due("by PHASE 2", x, "state(0)", 3, "state(1)", 1, "state(2)", 0);
        // from PHASE 1 of RATE 3 and 2 first: LOSS 26 wants 28 and 30 there, is CLOCKED at RATE 1, never EVEN
        x = new ScreenTalk();
        x.lane(0, 26, 0);
        x.wire(2, 3);
        x.begin();
        x.tries(100);
        route("by both", x, 2, 3, 2, 2, 2, 1, 1, 1, 1, 0);
        Say.due("by both", x, "fall(0, 0)", 1, "fall(1, 0)", 1, "fall(2, 0)", 4, "fall(3, 0)", 4, "fall(4, 0)", 4, "state(0)", 4);
    }

    /** "If there is none such (1 lane, RATE 0): PHASE 4, DOWN, LANES and RATE stay". */
    private static void downFromBoth() {
        ScreenTalk x = tried(30, 0, 0, 4);
        Say.due("DOWN from PHASE 1", x, "state(0)", 4, "state(1)", 1, "state(2)", 0, "state(3)", 0, "state(4)", 4, "state(5)", 1,
            "state(6)", 0, "state(7)", 0, "tries(1)", -5, "shown(0)", -5);
        x = tried(24, 0, 0, 6);
        Say.due("DOWN from PHASE 2", x, "state(0)", 4, "state(1)", 1, "state(2)", 0, "state(3)", 0, "state(4)", 6, "state(5)", 1,
            "state(6)", 0, "state(7)", 0, "tries(1)", -5, "shown(0)", -5);
    }

    /** As many FALLS as there can be, 12, and more TRIES than tries() makes at once. */
    private static void mostFalls() {
        ScreenTalk x = new ScreenTalk();
        x.lane(0, 23, 12);
        x.wire(4, 3);
        x.begin();
        // 10 TRIES of RATE 3, 2 and 1 by three SWINGS, 9 of RATE 0 by two
        Say.due("117 TRIES", x, "tries(100)", 100, "state(0)", 1, "state(5)", 10, "state(4)", 100, "tries(100)", 17,
            "state(0)", 4, "state(4)", 117, "state(5)", 12, "tries(1)", -5);
        route("all twelve", x, 4, 3, 4, 2, 4, 1, 4, 0, 2, 3, 2, 2, 2, 1, 2, 0, 1, 3, 1, 2, 1, 1, 1, 0);
        Say.due("the last", x, "fall(11, 0)", 3, "fall(11, 3)", 9, "fall(8, 0)", 2, "fall(8, 3)", 10, "fall(12, 0)", -2,
            "step(116, 6)", 3, "step(116, 3)", 2000, "step(117, 6)", -2);
    }

    /** "Whenever LOSS, SLOW, the WIRE are told, TRAINING is over (PHASE 0).": the same ones, in every PHASE. */
    private static void overWhenTold() {
        int[] tries = {0, 1, 4, 5, 6, 40, 100};
        for (int n : tries) {
            for (String told : new String[] {"lane(0, 23, 0)", "lane(3, 0, 0)", "wire(4, 3)", "lane(1, 5, 5)", "wire(1, 0)"}) {
                ScreenTalk x = new ScreenTalk();
                x.lane(0, 23, 0);
                x.wire(4, 3);
                x.begin();
                if (n > 0) {
                    x.tries(n);
                }
                Due.holds("it is trained", x.state(0) > 0);
                Due.holds(told + " is taken", Say.to(x, told) >= 0);
                for (int what = 0; what < 8; what++) {
                    Say.due("over by " + told, x, "state(" + what + ")", 0);
                }
                for (int what = 2; what < 6; what++) {
                    Say.due("over by " + told, x, "level(0, " + what + ")", 0);
                }
                Say.due("over by " + told, x, "tries(1)", -5, "shown(0)", -5, "fall(0, 0)", -2, "step(0, 0)", -2);
            }
        }
    }

    /** "What is told by bytes doesn't touch it.", nor WISH, nor bytes with a FAULT. */
    private static void bytesDontTouchIt() {
        for (int n : new int[] {1, 4, 5, 6, 100}) {
            ScreenTalk x = tried4(n);
            ScreenTalk y = tried4(n);
            new Blocks(1).data(1, 0x41, 16).loadSealed(x);
            x.load(0);
            x.wish(12);
            for (int k = 0; k < 8; k++) {
                Say.due("bytes", x, "state(" + k + ")", y.state(k));
            }
            for (int k = 0; k < 24; k++) {
                String level = "level(" + k / 6 + ", " + k % 6 + ")";
                Say.due("bytes", x, level, Say.to(y, level));
            }
            Say.due("bytes", x, "tries(100)", y.tries(100), "state(4)", y.state(4), "state(1)", y.state(1));
        }
    }

    private static ScreenTalk tried4(int n) {
        ScreenTalk x = new ScreenTalk();
        x.lane(0, 23, 0);
        x.wire(4, 3);
        x.begin();
        x.tries(n);
        return x;
    }

    /** Promise 24: "n TRIES (1 to 100), or as many as there are till it is UP, DOWN: how many. -3". */
    private static void triesTaken() {
        ScreenTalk x = begun(0, 0, 2);
        Say.due("24 refused", x, "tries(0)", -3, "tries(-1)", -3, "tries(101)", -3, "tries(MIN)", -3, "tries(MAX)", -3,
            "state(4)", 0, "step(0, 0)", -2);
        Say.due("24 one", x, "tries(1)", 1, "state(4)", 1);
        Say.due("24 till it is UP", x, "tries(100)", 2, "state(0)", 3, "state(4)", 3);
        Say.due("24 till it is DOWN", begun(30, 0, 0), "tries(100)", 4, "state(0)", 4);
        Say.due("24 just as many", begun(30, 0, 0), "tries(4)", 4, "state(0)", 4, "tries(1)", -5);
        Say.due("24 one less", begun(30, 0, 0), "tries(3)", 3, "state(0)", 1, "tries(2)", 1, "state(0)", 4);
    }

    /** Promise 24: "-5: PHASE is 0, 3, 4."; -3 comes first. */
    private static void triesNow() {
        Say.due("24 PHASE 0", new ScreenTalk(), "tries(1)", -5, "tries(100)", -5, "tries(0)", -3, "tries(101)", -3);
        Say.due("24 PHASE 1", begun(0, 0, 2), "tries(1)", 1);
        Say.due("24 PHASE 2", tried(0, 0, 2, 1), "state(0)", 2, "tries(1)", 1);
        Say.due("24 PHASE 3", tried(0, 0, 2, 3), "state(0)", 3, "tries(1)", -5, "tries(100)", -5, "tries(0)", -3, "tries(101)", -3);
        Say.due("24 PHASE 4", tried(30, 0, 0, 4), "state(0)", 4, "tries(1)", -5, "tries(100)", -5, "tries(0)", -3, "tries(101)", -3);
    }

    /** Promise 25: "-2: another what." */
    private static void stateNumbers() {
        for (ScreenTalk x : new ScreenTalk[] {new ScreenTalk(), begun(0, 0, 2), tried(0, 0, 2, 3), tried(30, 0, 0, 4)}) {
            Say.due("25 what", x, "state(-1)", -2, "state(8)", -2, "state(MIN)", -2, "state(MAX)", -2);
            Due.holds("25 state(0), state(7)", x.state(0) >= 0 && x.state(7) >= 0);
        }
    }

    /** Promise 25: "(0 in others)", "(PHASE 0: all are 0; PHASE 4: 6, 7 are, too.)". */
    private static void stateOfEachPhase() {
        int[][] want = {{1, 1, 2, 1, 1, 0, 1, 0}, {2, 1, 2, 0, 2, 0, 1, 0}, {2, 1, 2, 2, 4, 0, 1, 2}, {2, 1, 2, 3, 5, 0, 0, 3}};
        int[] tries = {1, 2, 4, 5};
        for (int i = 0; i < tries.length; i++) {
            ScreenTalk x = tried(11, 0, 2, tries[i]);
            for (int what = 0; what < 8; what++) {
                Say.due("25 after " + tries[i], x, "state(" + what + ")", want[i][what]);
            }
        }
        Say.due("25 UP", tried(10, 0, 2, 5), "state(0)", 3, "state(1)", 1, "state(2)", 2, "state(3)", 0, "state(4)", 5,
            "state(5)", 0, "state(6)", 0, "state(7)", 3);
        // the greatest of lanes, whichever it is
        for (int l = 0; l < 4; l++) {
            ScreenTalk x = new ScreenTalk();
            x.lane(l, 15, 0);
            x.wire(4, 0);
            x.begin();
            Say.due("25 the greatest", x, "tries(1)", 1, "state(6)", 1, "level(" + l + ", 2)", 1);
        }
    }

    /** Promise 26: "-2: there is none such, what." */
    private static void levelNumbers() {
        for (ScreenTalk x : new ScreenTalk[] {new ScreenTalk(), begun(0, 0, 2), tried(0, 0, 2, 3), tried(30, 0, 0, 4)}) {
            Say.due("26", x, "level(-1, 0)", -2, "level(4, 0)", -2, "level(MIN, 0)", -2, "level(MAX, 0)", -2, "level(0, -1)", -2,
                "level(0, 6)", -2, "level(3, 6)", -2, "level(0, MIN)", -2, "level(0, MAX)", -2, "level(4, 6)", -2);
            Due.holds("26 level(0, 0), level(3, 5)", x.level(0, 0) >= 0 && x.level(3, 5) == 0);
        }
    }

    private static void levels(String what, ScreenTalk x, int l, int... want) {
        for (int k = 0; k < want.length; k++) {
            Say.due(what, x, "level(" + l + ", " + k + ")", want[k]);
        }
    }

    /** Promise 26: "by the latest TRY .. since the foot (PHASES 2, 3: 1)", "(2 to 5: 0 beyond LANES, in PHASES 0, 4.)". */
    private static void levelOfEachPhase() {
        ScreenTalk x = new ScreenTalk();
        x.lane(0, 15, 1);
        x.lane(1, 0, 0);
        x.lane(2, 30, 12);
        x.wire(2, 0);
        levels("26 PHASE 0", x, 0, 15, 1, 0, 0, 0, 0);
        x.begin();
        levels("26 no TRY yet", x, 1, 0, 0, 0, 0, 0, 0);
        x.tries(1);
        levels("26 PHASE 1", x, 0, 15, 1, 1, 0, 0, 0);
        levels("26 PHASE 1", x, 1, 0, 0, 0, 0, 1, 0);
        levels("26 beyond LANES", x, 2, 30, 12, 0, 0, 0, 0);
        x.tries(1);
        levels("26 PHASE 2", x, 0, 15, 1, 1, 0, 1, 0);
        x.tries(1);
        levels("26 PHASE 3", x, 0, 15, 1, 1, 0, 1, 1);
        levels("26 PHASE 3", x, 1, 0, 0, 0, 0, 1, 1);
        levels("26 beyond LANES", x, 2, 30, 12, 0, 0, 0, 0);
        levels("26 PHASE 4", tried(30, 0, 0, 4), 0, 30, 0, 0, 0, 0, 0);
        // after a FALL none was CLOCKED, EVEN since the foot
        x = new ScreenTalk();
        x.lane(0, 6, 0);
        x.wire(2, 3);
        x.begin();
        x.tries(4);
        levels("26 EVEN by the latest TRY", x, 1, 0, 0, 0, 3, 1, 0);
        x.tries(1);
        levels("26 at the foot", x, 0, 6, 0, 0, 0, 0, 0);
        levels("26 at the foot", x, 1, 0, 0, 0, 0, 0, 0);
        // EVEN by one TRY of PHASE 2 and not yet UP
        x = new ScreenTalk();
        x.lane(0, 18, 0);
        x.wire(2, 0);
        x.begin();
        x.tries(3);
        levels("26 not EVEN", x, 0, 18, 0, 1, 1, 1, 0);
        levels("26 EVEN", x, 1, 0, 0, 0, 0, 1, 1);
    }

    /** Promise 27: "-2: there is none such, what." */
    private static void fallNumbers() {
        Say.due("27 none", new ScreenTalk(), "fall(0, 0)", -2, "fall(-1, 0)", -2, "fall(0, 4)", -2);
        Say.due("27 none yet", tried(30, 0, 1, 3), "fall(0, 0)", -2);
        ScreenTalk x = tried(30, 0, 1, 8);
        Say.due("27 two", x, "fall(0, 0)", 1, "fall(1, 3)", 4, "fall(2, 0)", -2, "fall(-1, 0)", -2, "fall(MIN, 0)", -2,
            "fall(MAX, 0)", -2);
        Say.due("27 what", x, "fall(1, 0)", 1, "fall(1, 1)", 1, "fall(1, 2)", 0, "fall(1, 4)", -2, "fall(1, -1)", -2,
            "fall(1, MIN)", -2, "fall(1, MAX)", -2);
        Say.due("27 UP without one", tried(0, 0, 2, 3), "fall(0, 0)", -2);
    }

    /** Promise 28: "-2: there is none such, what."; "(0 beyond LANES)". */
    private static void stepNumbers() {
        Say.due("28 none", new ScreenTalk(), "step(0, 0)", -2, "step(-1, 0)", -2, "step(0, 7)", -2);
        Say.due("28 none yet", begun(0, 0, 2), "step(0, 0)", -2);
        ScreenTalk x = tried(0, 0, 2, 3);
        Say.due("28 three", x, "step(0, 0)", 1, "step(2, 6)", 8, "step(3, 0)", -2, "step(-1, 0)", -2, "step(MIN, 0)", -2,
            "step(MAX, 0)", -2);
        Say.due("28 what", x, "step(2, 0)", 2, "step(2, 7)", -2, "step(2, -1)", -2, "step(2, MIN)", -2, "step(2, MAX)", -2);
        x = new ScreenTalk();
        for (int l = 0; l < 4; l++) {
            x.lane(l, 24, 0);
        }
        x.wire(2, 0);
        x.begin();
        x.tries(4);
        Say.due("28 0 beyond LANES", x, "step(2, 3)", 2200, "step(2, 4)", 0, "step(2, 5)", 3, "step(3, 3)", 2200, "tries(1)", 1,
            "step(4, 4)", 1100, "step(4, 1)", 2);
    }

    /** Promise 29: "-5: PHASE isn't 3.", "-2: what" first. */
    private static void shownNow() {
        ScreenTalk[] others = {new ScreenTalk(), begun(0, 0, 2), tried(0, 0, 2, 1), tried(30, 0, 0, 4)};
        for (int phase = 0; phase < 4; phase++) {
            ScreenTalk x = others[phase];
            new Blocks(1).data(1, 0x41, 1).loadSealed(x);
            Say.due("29 PHASE isn't 3", x, "state(0)", phase < 3 ? phase : 4, "shown(0)", -5, "shown(1)", -5, "shown(2)", -5,
                "shown(-1)", -2, "shown(3)", -2, "shown(MIN)", -2, "shown(MAX)", -2);
        }
    }

    /** Promise 29: "NONE: none is CARRIED; -2: what". */
    private static void shownNumbers() {
        ScreenTalk x = tried(0, 0, 2, 3);
        Say.due("29 none is CARRIED", x, "shown(0)", -1, "shown(1)", -1, "shown(2)", -1, "shown(3)", -2, "shown(-1)", -2);
        new Blocks(1).data(1, 0x41, 1).loadSealed(x);
        Say.due("29 one is", x, "shown(0)", 0, "shown(1)", 8, "shown(2)", 4320000 - 25175 * 24, "shown(3)", -2, "shown(-1)", -2,
            "shown(MIN)", -2, "shown(MAX)", -2);
    }

    /** "NONE: none is CARRIED": one that needs all ROOM is, one of 10 kHz more isn't. */
    private static void shownOfRoom() {
        for (int more = 0; more < 2; more++) {
            ScreenTalk x = tried(0, 0, 0, 2);
            new Blocks(0).detailed(54, 7200 + more, 1000, 0, 0, 0, 1000, 0, 0, 0).loadSealed(x);
            Say.due("29 ROOM and " + more, x, "shown(0)", -more, "shown(1)", more == 0 ? 6 : -1, "shown(2)", -more);
        }
    }
}
