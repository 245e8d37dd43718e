/** Promises 30 to 35: trained, margin, laid, enough, would, count. */
public final class PaperTest {
    public static void main(String[] args) {
        trained();
        paperTouchesNothing();
        margin();
        marginBeyondAGap();
        laid();
        enough();
        would();
        count();
        Due.end();
    }

    private static void ends(String what, ScreenTalk x, int... want) {
        for (int k = 0; k < want.length; k++) {
            Due.due("30 " + what + ": trained(" + k + ")", x.trained(k), want[k]);
        }
    }

    private static void trained() {
        ScreenTalk x = new ScreenTalk();
        ends("new", x, 3, 4, 2, 3, 0, 17280000);
        x.lane(0, 30, 0);
        ends("down", x, 4, 1, 0, 36, 9, 0);
        x.lane(0, 6, 0);
        x.wire(1, 3);
        // by 6 at RATE 3 after 5 TRIES, then clocked and evened by two EMPHASES
        ends("less RATE", x, 3, 1, 2, 9, 1, 4320000);
        Due.due("30 what 6", x.trained(6), -2);
        Due.due("30 what -1", x.trained(-1), -2);
        // only the lanes of the WIRE count
        x.lane(1, 30, 12);
        ends("one lane", x, 3, 1, 2, 9, 1, 4320000);
    }

    private static void paperTouchesNothing() {
        ScreenTalk x = new ScreenTalk();
        x.lane(0, 23, 0);
        x.wire(4, 3);
        x.begin();
        x.tries(5);
        x.trained(0);
        x.margin(0);
        x.laid(1);
        x.enough();
        x.would(0);
        int[] want = {2, 4, 3, 1, 5, 0, 2, 1};
        for (int k = 0; k < want.length; k++) {
            Due.due("30 state(" + k + ")", x.state(k), want[k]);
        }
        Due.due("30 step", x.step(4, 3), 3000);
        Due.due("31 LOSS stays", x.level(0, 0), 23);
        Due.due("33 RATE stays", x.count(4), 3);
        x.tries(1);
        Due.due("30 it goes on", x.fall(0, 0), 4);
    }

    private static void margin() {
        ScreenTalk x = new ScreenTalk();
        x.wire(1, 0);
        // at RATE 0: SWING 2 bears 24, and is left one by EMPHASIS 2 (19) at half 12 (14), so 23 and its half 11
        Due.due("31 one lane of RATE 0", x.margin(0), 23);
        for (int l = 1; l < 4; l++) {
            Due.due("31 a lane beyond the WIRE", x.margin(l), 30);
        }
        x.lane(0, 30, 0);
        Due.due("31 down anyway", x.margin(0), 30);
        x.lane(0, 23, 0);
        Due.due("31 no more", x.margin(0), 23);
        Due.due("31 lane 4", x.margin(4), -2);
        Due.due("31 lane -1", x.margin(-1), -2);
    }

    /** For each lane and many links: the greatest of all 31 by telling each of them to another object. */
    private static void marginBeyondAGap() {
        for (int seed = 0; seed < 60; seed++) {
            int[][] lanes = new int[4][2];
            for (int l = 0; l < 4; l++) {
                lanes[l][0] = (seed * 7 + l * 11 + seed / 3 * l) % 31;
                lanes[l][1] = (seed * 5 + l * 3) % 10 * (seed % 2);
            }
            int wireLanes = 1 << seed % 3;
            int wireRate = seed / 3 % 4;
            ScreenTalk x = told(lanes, wireLanes, wireRate);
            int l = seed % 4;
            int want = -1;
            for (int loss = 0; loss <= 30; loss++) {
                ScreenTalk y = told(lanes, wireLanes, wireRate);
                y.lane(l, loss, lanes[l][1]);
                want = y.trained(5) >= x.trained(5) ? loss : want;
            }
            Due.due("31 margin of seed " + seed, x.margin(l), want);
            orders(seed, lanes, x);
        }
    }

    private static ScreenTalk told(int[][] lanes, int wireLanes, int wireRate) {
        ScreenTalk x = new ScreenTalk();
        for (int l = 0; l < 4; l++) {
            x.lane(l, lanes[l][0], lanes[l][1]);
        }
        x.wire(wireLanes, wireRate);
        return x;
    }

    private static void orders(int seed, int[][] lanes, ScreenTalk x) {
        int most = -1;
        int order = -1;
        for (int number = 0; number <= 3210; number++) {
            int[] p = {number / 1000, number / 100 % 10, number / 10 % 10, number % 10};
            int set = 0;
            for (int l : p) {
                set |= 1 << l;
            }
            if (set == 15) {
                int[][] moved = {lanes[p[0]], lanes[p[1]], lanes[p[2]], lanes[p[3]]};
                int room = told(moved, x.count(3), x.count(4)).trained(5);
                if (room > most) {
                    most = room;
                    order = number;
                }
            }
        }
        Due.due("32 laid(0) of seed " + seed, x.laid(0), most);
        Due.due("32 laid(1) of seed " + seed, x.laid(1), order);
        int least = -1;
        for (int rate = 3; rate >= 0; rate--) {
            if (told(lanes, x.count(3), rate).trained(5) >= x.trained(5)) {
                least = rate;
            }
        }
        Due.due("33 enough() of seed " + seed, x.enough(), least);
    }

    private static void laid() {
        ScreenTalk x = new ScreenTalk();
        Due.due("32 as they are", x.laid(1), 123);
        Due.due("32 as they are", x.laid(0), 17280000);
        x.lane(0, 30, 0);
        x.lane(1, 30, 0);
        Due.due("32 two are left", x.laid(0), 8640000);
        Due.due("32 two are left", x.laid(1), 2301);
        x.wire(1, 2);
        Due.due("32 one of the WIRE", x.laid(1), 2013);
        Due.due("32 one of the WIRE", x.laid(0), 4320000);
        for (int l = 0; l < 4; l++) {
            x.lane(l, 30, l);
        }
        Due.due("32 all are down", x.laid(0), 0);
        Due.due("32 all are down", x.laid(1), 123);
        Due.due("32 what 2", x.laid(2), -2);
        Due.due("32 what -1", x.laid(-1), -2);
    }

    private static void enough() {
        ScreenTalk x = new ScreenTalk();
        Due.due("33 RATE 2 is wanted for its ROOM", x.enough(), 2);
        x.wire(1, 3);
        x.lane(0, 6, 0);
        Due.due("33 RATE 3 comes to RATE 2", x.enough(), 2);
        x.lane(0, 30, 0);
        Due.due("33 down anyway", x.enough(), 0);
    }

    private static void would() {
        ScreenTalk x = new ScreenTalk();
        Due.due("34 no MODES", x.would(0), -1);
        new Blocks(1).data(1, 0x43, 97, 16, 2).loadSealed(x);
        Due.due("34 the MODE", x.would(0), 0);
        Due.due("34 the DEPTH", x.would(1), 8);
        x.wire(1, 1);
        Due.due("34 one lane", x.would(0), 2);
        x.wish(12);
        Due.due("34 by WISH", x.would(1), 12);
        x.lane(0, 30, 0);
        Due.due("34 down", x.would(0), -1);
        Due.due("34 down", x.would(1), -1);
        Due.due("34 what 2", x.would(2), -2);
        Due.due("34 what -1", x.would(-1), -2);
    }

    private static void count() {
        ScreenTalk x = new ScreenTalk();
        x.feed(1, 2, 3, 4, 5);
        x.wish(12);
        x.wire(2, 0);
        int[] want = {0, 20, 12, 2, 0, -1};
        for (int k = 0; k < want.length; k++) {
            Due.due("35 count(" + k + ")", x.count(k), want[k]);
        }
        Due.due("35 count(-1)", x.count(-1), -1);
        x.load(0);
        Due.due("35 the tape is empty", x.count(1), 0);
        new Blocks(2).loadSealed(x);
        Due.due("35 blocks", x.count(0), 3);
    }
}
