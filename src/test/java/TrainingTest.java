/** Promises 21 to 29: lane, wire, begin, tries, state, level, fall, step, shown. */
public final class TrainingTest {
    public static void main(String[] args) {
        lane();
        wire();
        begin();
        tries();
        fallByWantOfSwing();
        fallByTenTries();
        fallBySevenTries();
        fallByEasedSwing();
        fallBySixTries();
        fallByWantOfEmphasis();
        slowLanes();
        emphasisEasesSwing();
        down();
        overByWhatIsTold();
        refused();
        shown();
        Due.end();
    }

    private static void states(String what, ScreenTalk x, int... want) {
        for (int k = 0; k < want.length; k++) {
            Due.due(what + ": state(" + k + ")", x.state(k), want[k]);
        }
    }

    private static void levels(String what, ScreenTalk x, int l, int... want) {
        for (int k = 0; k < want.length; k++) {
            Due.due(what + ": level(" + l + ", " + k + ")", x.level(l, k), want[k]);
        }
    }

    private static void steps(String what, ScreenTalk x, int k, int... want) {
        for (int i = 0; i < want.length; i++) {
            Due.due(what + ": step(" + k + ", " + i + ")", x.step(k, i), want[i]);
        }
    }

    private static void falls(String what, ScreenTalk x, int k, int... want) {
        for (int i = 0; i < want.length; i++) {
            Due.due(what + ": fall(" + k + ", " + i + ")", x.fall(k, i), want[i]);
        }
    }

    private static void lane() {
        ScreenTalk x = new ScreenTalk();
        Due.due("21 lane(3, 30, 12)", x.lane(3, 30, 12), 0);
        Due.due("21 lane(3, 5, 0)", x.lane(3, 5, 0), 30);
        Due.due("21 lane(0, 1, 2)", x.lane(0, 1, 2), 0);
        levels("21", x, 3, 5, 0, 0, 0, 0, 0);
        levels("21", x, 0, 1, 2);
        Due.due("21 no lane 4", x.lane(4, 31, 13), -2);
        Due.due("21 no lane -1", x.lane(-1, 0, 0), -2);
        Due.due("21 LOSS 31", x.lane(3, 31, 0), -3);
        Due.due("21 LOSS -1", x.lane(3, -1, 0), -3);
        Due.due("21 SLOW 13", x.lane(3, 0, 13), -3);
        Due.due("21 SLOW -1", x.lane(3, 0, -1), -3);
        levels("21 as it was", x, 3, 5, 0);
    }

    private static void wire() {
        ScreenTalk x = new ScreenTalk();
        Due.due("22 wire(2, 3)", x.wire(2, 3), 12960000);
        Due.due("22 lanes", x.count(3), 2);
        Due.due("22 RATE", x.count(4), 3);
        for (int[] bad : new int[][] {{3, 0}, {0, 0}, {8, 0}, {-4, 0}, {1, 4}, {1, -1}}) {
            Due.due("22 refused", x.wire(bad[0], bad[1]), -3);
        }
        Due.due("22 lanes stay", x.count(3), 2);
        Due.due("22 RATE stays", x.count(4), 3);
        Due.due("22 wire(1, 0)", x.wire(1, 0), 1296000);
    }

    private static void begin() {
        ScreenTalk x = new ScreenTalk();
        states("25 new", x, 0, 0, 0, 0, 0, 0, 0, 0);
        Due.due("23 begin", x.begin(), 17280000);
        states("23", x, 1, 4, 2, 0, 0, 0, 0, 0);
        x.tries(2);
        Due.due("23 begin anew", x.begin(), 17280000);
        states("23 anew", x, 1, 4, 2, 0, 0, 0, 0, 0);
        Due.due("23 no step", x.step(0, 0), -2);
        x.wire(2, 1);
        Due.due("23 begin(2, 1)", x.begin(), 4320000);
        states("23 by the wire", x, 1, 2, 1, 0, 0, 0, 0, 0);
    }

    /** Without LOSS, at RATE 2: clocked at once, evened by one EMPHASIS. */
    private static void tries() {
        ScreenTalk x = new ScreenTalk();
        x.begin();
        Due.due("24 one", x.tries(1), 1);
        states("24 clocked", x, 2, 4, 2, 0, 1, 0, 0, 0);
        levels("24 clocked", x, 3, 0, 0, 0, 0, 1, 0);
        Due.due("24 one more", x.tries(1), 1);
        states("24 one of PHASE 2", x, 2, 4, 2, 1, 2, 0, 0, 1);
        levels("24 wants", x, 3, 0, 0, 0, 1, 1, 0);
        Due.due("24 as many as there are", x.tries(100), 1);
        states("24 up", x, 3, 4, 2, 0, 3, 0, 0, 1);
        levels("24 up", x, 3, 0, 0, 0, 1, 1, 1);
        Due.due("24 it is up", x.tries(1), -5);
        Due.due("24 a number first", x.tries(0), -3);
        Due.due("24 a number first", x.tries(101), -3);
        Due.due("24 a number first", x.tries(-1), -3);
        steps("28", x, 0, 1, 4, 2, 0, 0, 15, 7);
        steps("28", x, 1, 2, 4, 2, 0, 0, 0, 0);
        steps("28", x, 2, 2, 4, 2, 0, 1111, 15, 8);
        Due.due("28 no more", x.step(3, 0), -2);
        Due.due("27 none", x.fall(0, 0), -2);
    }

    /** LOSS 30 at RATE 3 wants more than SWING 3. */
    private static void fallByWantOfSwing() {
        ScreenTalk x = new ScreenTalk();
        x.lane(1, 30, 0);
        x.wire(2, 3);
        x.begin();
        Due.due("by 1 tries", x.tries(3), 3);
        states("by 1 ahead", x, 1, 2, 3, 3, 3, 0, 3, 0);
        levels("by 1 ahead", x, 0, 0, 0, 0, 0, 1, 0);
        levels("by 1 ahead", x, 1, 30, 0, 3, 0, 0, 0);
        x.tries(1);
        states("by 1", x, 1, 2, 2, 0, 4, 1, 0, 0);
        levels("by 1", x, 0, 0, 0, 0, 0, 0, 0);
        falls("27 by 1", x, 0, 1, 2, 3, 4);
        steps("28 by 1", x, 0, 1, 2, 3, 0, 0, 1, 0);
        steps("28 by 1", x, 2, 1, 2, 3, 200, 0, 1, 0);
        steps("28 by 1", x, 3, 1, 2, 3, 300, 0, 1, 1);
        // RATE by RATE, then one lane of the WIRE's RATE
        x.tries(12);
        states("by 1, less lanes", x, 1, 1, 3, 0, 16, 4, 0, 0);
        falls("27 the fourth", x, 3, 1, 2, 0, 4);
    }

    /** Three changes of SWING, and a lane that is too slow: the 10th TRY is the 7th since, too. */
    private static void fallByTenTries() {
        ScreenTalk x = new ScreenTalk();
        x.lane(0, 25, 10);
        x.wire(1, 0);
        x.begin();
        x.tries(9);
        states("by 2 ahead", x, 1, 1, 0, 9, 9, 0, 3, 0);
        x.tries(1);
        states("by 2", x, 4, 1, 0, 0, 10, 1, 0, 0);
        falls("27 by 2", x, 0, 2, 1, 0, 10);
        x.lane(0, 25, 9);
        x.begin();
        x.tries(10);
        states("clocked by the 10th", x, 2, 1, 0, 0, 10, 0, 3, 0);
    }

    private static void fallBySevenTries() {
        ScreenTalk x = new ScreenTalk();
        x.lane(2, 0, 7);
        x.wire(4, 1);
        x.begin();
        x.tries(6);
        states("by 3 ahead", x, 1, 4, 1, 6, 6, 0, 0, 0);
        x.tries(1);
        states("by 3", x, 1, 4, 0, 0, 7, 1, 0, 0);
        falls("27 by 3", x, 0, 3, 4, 1, 7);
        steps("28 by 3", x, 6, 1, 4, 1, 0, 0, 11, 3);
        // two changes of SWING by another lane: the 9th TRY
        x.lane(1, 20, 0);
        x.lane(2, 0, 9);
        x.wire(4, 0);
        x.begin();
        x.tries(9);
        falls("27 by 3, later", x, 0, 3, 4, 0, 9);
        x.lane(2, 0, 8);
        x.begin();
        x.tries(9);
        states("clocked by the 9th", x, 2, 4, 0, 0, 9, 0, 2, 0);
    }

    /** SWING 3 is wanted, and EMPHASIS takes one of it. */
    private static void fallByEasedSwing() {
        ScreenTalk x = new ScreenTalk();
        x.lane(0, 23, 0);
        x.wire(4, 3);
        x.begin();
        x.tries(4);
        states("by 4, clocked", x, 2, 4, 3, 0, 4, 0, 3, 0);
        x.tries(1);
        states("by 4 ahead", x, 2, 4, 3, 1, 5, 0, 2, 1);
        levels("by 4 ahead", x, 0, 23, 0, 2, 1, 1, 0);
        x.tries(1);
        states("by 4", x, 1, 2, 3, 0, 6, 1, 0, 0);
        falls("27 by 4", x, 0, 4, 4, 3, 2);
        steps("28 by 4", x, 5, 2, 4, 3, 2000, 1111, 0, 4);
    }

    private static void fallBySixTries() {
        ScreenTalk x = new ScreenTalk();
        x.lane(0, 0, 8);
        x.lane(1, 20, 0);
        x.wire(2, 0);
        x.begin();
        Due.due("by 5 clocked", x.tries(9), 9);
        states("by 5 clocked", x, 2, 2, 0, 0, 9, 0, 2, 0);
        x.tries(5);
        states("by 5 ahead", x, 2, 2, 0, 5, 14, 0, 2, 1);
        levels("by 5 ahead", x, 0, 0, 8, 0, 0, 1, 0);
        levels("by 5 ahead", x, 1, 20, 0, 2, 1, 1, 1);
        x.tries(1);
        states("by 5", x, 1, 1, 0, 0, 15, 1, 0, 0);
        falls("27 by 5", x, 0, 5, 2, 0, 6);
        steps("28 by 5", x, 9, 2, 2, 0, 200, 0, 0, 0);
        steps("28 by 5", x, 14, 2, 2, 0, 200, 100, 2, 5);
        x.lane(0, 0, 7);
        x.begin();
        x.tries(100);
        states("up by the 6th", x, 3, 2, 0, 0, 14, 0, 2, 1);
    }

    /** LOSS 6 at RATE 3 wants more than EMPHASIS 3. */
    private static void fallByWantOfEmphasis() {
        ScreenTalk x = new ScreenTalk();
        x.lane(0, 6, 0);
        x.wire(1, 3);
        x.begin();
        x.tries(4);
        states("by 6 ahead", x, 2, 1, 3, 3, 4, 0, 0, 3);
        x.tries(1);
        states("by 6", x, 1, 1, 2, 0, 5, 1, 0, 0);
        falls("27 by 6", x, 0, 6, 1, 3, 4);
        steps("28 by 6", x, 4, 2, 1, 3, 0, 3000, 0, 6);
        x.lane(0, 5, 0);
        x.begin();
        x.tries(100);
        states("LOSS 5 is evened", x, 3, 1, 3, 0, 5, 0, 0, 3);
        x.lane(1, 6, 0);
        x.wire(2, 3);
        x.begin();
        x.tries(5);
        falls("27 by 6 of one lane", x, 0, 6, 2, 3, 4);
        steps("28 by 6 of one lane", x, 4, 2, 2, 3, 0, 3300, 1, 6);
        states("less lanes, the same RATE", x, 1, 1, 3);
    }

    private static void slowLanes() {
        for (int slow = 0; slow <= 6; slow++) {
            ScreenTalk x = new ScreenTalk();
            x.lane(0, 0, slow);
            x.wire(1, 0);
            x.begin();
            int even = Math.max(1, slow - 1);
            Due.due("25 SLOW " + slow, x.tries(100), slow + 1 + even);
            states("25 SLOW " + slow, x, 3, 1, 0, 0, slow + 1 + even, 0, 0, 0);
        }
    }

    /** Of the lanes that want EMPHASIS only those above 3 together give a SWING. */
    private static void emphasisEasesSwing() {
        ScreenTalk x = new ScreenTalk();
        x.lane(0, 15, 0);
        x.lane(1, 20, 0);
        x.wire(2, 1);
        x.begin();
        x.tries(3);
        states("eased, clocked", x, 2, 2, 1, 0, 3, 0, 2, 0);
        x.tries(1);
        states("eased once", x, 2, 2, 1, 1, 4, 0, 2, 1);
        x.tries(1);
        // 15 and 2 are within 5 and 14; 20 and 2 aren't within 19
        steps("28 eased", x, 4, 2, 2, 1, 1200, 1100, 0, 0);
        levels("eased twice", x, 0, 15, 0, 1, 2, 1, 0);
        levels("eased twice", x, 1, 20, 0, 1, 2, 1, 0);
        x.tries(1);
        falls("27 eased", x, 0, 4, 2, 1, 3);
        steps("28 eased, fallen", x, 5, 2, 2, 1, 1100, 2200, 0, 4);
    }

    private static void down() {
        ScreenTalk x = new ScreenTalk();
        x.lane(0, 30, 0);
        x.begin();
        Due.due("down", x.tries(100), 36);
        states("down", x, 4, 1, 0, 0, 36, 9, 0, 0);
        for (int l = 0; l < 4; l++) {
            levels("down", x, l, l == 0 ? 30 : 0, 0, 0, 0, 0, 0);
        }
        int[][] want = {{4, 2}, {4, 1}, {4, 0}, {2, 2}, {2, 1}, {2, 0}, {1, 2}, {1, 1}, {1, 0}};
        for (int k = 0; k < want.length; k++) {
            falls("27 down", x, k, 1, want[k][0], want[k][1], 4);
        }
        Due.due("27 no more", x.fall(9, 0), -2);
        steps("28 down", x, 35, 1, 1, 0, 3000, 0, 0, 1);
        Due.due("28 no more", x.step(36, 0), -2);
        Due.due("24 it is down", x.tries(1), -5);
        // from PHASE 2 of one lane and RATE 0: SWING 3 is wanted for 25, EMPHASIS for 12
        x.lane(0, 25, 0);
        x.wire(1, 0);
        x.begin();
        x.tries(100);
        states("down from PHASE 2", x, 4, 1, 0, 0, 6, 1, 0, 0);
        falls("27 down from PHASE 2", x, 0, 4, 1, 0, 2);
        // from PHASE 2 of one lane and RATE 1
        x.lane(0, 23, 0);
        x.wire(1, 1);
        x.begin();
        x.tries(6);
        states("less RATE from PHASE 2", x, 1, 1, 0, 0, 6, 1, 0, 0);
    }

    private static void overByWhatIsTold() {
        for (int i = 0; i < 5; i++) {
            ScreenTalk x = new ScreenTalk();
            x.lane(0, 23, 0);
            x.wire(4, 3);
            x.begin();
            x.tries(5 + i);
            x.lane(0, 31, 0);
            x.lane(4, 0, 0);
            x.wire(3, 0);
            new Blocks(0).loadSealed(x);
            Due.due("refused calls and bytes don't touch it", x.state(4), 5 + i);
            if (i < 2) {
                x.lane(3, 0, 0);
            } else {
                x.wire(4, 3);
            }
            states("over", x, 0, 0, 0, 0, 0, 0, 0, 0);
            levels("over", x, 0, 23, 0, 0, 0, 0, 0);
            Due.due("24 over", x.tries(1), -5);
            Due.due("27 over", x.fall(0, 0), -2);
            Due.due("28 over", x.step(0, 0), -2);
            Due.due("29 over", x.shown(0), -5);
        }
    }

    private static void refused() {
        ScreenTalk x = new ScreenTalk();
        x.lane(0, 30, 0);
        x.begin();
        x.tries(4);
        for (int what : new int[] {-1, 8, Integer.MAX_VALUE, Integer.MIN_VALUE}) {
            Due.due("25 what", x.state(what), -2);
            Due.due("26 what", x.level(0, what), -2);
            Due.due("27 what", x.fall(0, what), -2);
            Due.due("28 what", x.step(0, what), -2);
            Due.due("29 what", x.shown(what), -2);
            Due.due("26 lane", x.level(what, 0), -2);
            Due.due("27 fall", x.fall(what, 0), -2);
            Due.due("28 step", x.step(what, 0), -2);
        }
        Due.due("26 what 6", x.level(0, 6), -2);
        Due.due("26 lane 4", x.level(4, 0), -2);
        Due.due("27 what 4", x.fall(0, 4), -2);
        Due.due("28 what 7", x.step(0, 7), -2);
        Due.due("29 what 3", x.shown(3), -2);
        Due.due("29 it isn't up", x.shown(2), -5);
    }

    private static void shown() {
        ScreenTalk x = new ScreenTalk();
        new Blocks(1).data(1, 0x43, 97, 16, 2).loadSealed(x);
        x.begin();
        x.tries(100);
        Due.due("29 the MODE", x.shown(0), 0);
        Due.due("29 the DEPTH", x.shown(1), 8);
        Due.due("29 ROOM that is left", x.shown(2), 17280000 - 14256000);
        x.wish(6);
        Due.due("29 by WISH", x.shown(1), 6);
        Due.due("29 left by WISH", x.shown(2), 17280000 - 10692000);
        new Blocks(1).data(1, 0x41, 1).loadSealed(x);
        Due.due("29 other bytes", x.shown(2), 17280000 - 25175 * 18);
        new Blocks(1).loadSealed(x);
        for (int what = 0; what < 3; what++) {
            Due.due("29 none is carried", x.shown(what), -1);
        }
        x.wire(1, 0);
        x.begin();
        Due.due("29 PHASE 1", x.shown(0), -5);
        x.tries(1);
        Due.due("29 PHASE 2", x.shown(0), -5);
    }
}
