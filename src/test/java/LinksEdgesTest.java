/** The edges of what is carried: WISH, ROOM, NEED, BEST and the cheapest link. */
public final class LinksEdgesTest {
    public static void main(String[] args) {
        wishes();
        rooms();
        needs();
        needIsRoomAtMost();
        bestUpToWish();
        bestIsTheFirst();
        bestNumbers();
        cheapestAtEachRoom();
        cheapestOfFewerLanes();
        cheapestNumbers();
        Due.end();
    }

    private static boolean isDepth(int depth) {
        return depth == 6 || depth == 8 || depth == 10 || depth == 12;
    }

    /** A screen of MODES of these CLOCKS (in tens of kHz), the first PREFERRED. */
    private static ScreenTalk clocks(int... clocks) {
        Blocks blocks = new Blocks(0);
        for (int i = 0; i < clocks.length; i++) {
            blocks.detailed(54 + 18 * i, clocks[i], 1000 - i, 0, 0, 0, 1000, 0, 0, 0);
        }
        ScreenTalk x = new ScreenTalk();
        Due.due("load", blocks.loadSealed(x), clocks.length);
        return x;
    }

    /** Promise 16: "WISH (6, 8, 10, 12): what it was. -3." */
    private static void wishes() {
        ScreenTalk x = new ScreenTalk();
        int was = 8;
        for (int depth = -12; depth <= 24; depth++) {
            Say.due("16", x, "wish(" + depth + ")", isDepth(depth) ? was : -3);
            was = isDepth(depth) ? depth : was;
            Say.due("16 it stays", x, "count(2)", was);
        }
        Say.due("16 far away", x, "wish(MIN)", -3, "wish(MAX)", -3, "count(2)", 12, "wish(12)", 12, "wish(6)", 12);
    }

    /** Promise 17: "ROOM of n lanes (1, 2, 4) of RATE 0 to 3"; "-3". */
    private static void rooms() {
        ScreenTalk x = new ScreenTalk();
        Say.due("17 the least, the greatest", x, "room(1, 0)", 1296000, "room(4, 3)", 25920000);
        for (int lanes = -2; lanes <= 9; lanes++) {
            for (int rate = -2; rate <= 5; rate++) {
                boolean such = (lanes == 1 || lanes == 2 || lanes == 4) && rate >= 0 && rate <= 3;
                Due.holds("17 room(" + lanes + ", " + rate + ")", such ? x.room(lanes, rate) > 0 : x.room(lanes, rate) == -3);
            }
        }
        Say.due("17 far away", x, "room(MIN, 0)", -3, "room(MAX, 0)", -3, "room(1, MIN)", -3, "room(1, MAX)", -3);
    }

    /** Promise 18: "NEED of MODE i. -2; -3." */
    private static void needs() {
        ScreenTalk x = clocks(65535, 1);
        Say.due("18 the greatest, the least", x, "need(0, 12)", 23592600, "need(0, 6)", 11796300, "need(1, 6)", 180,
            "need(1, 12)", 360);
        for (int depth = 0; depth <= 14; depth++) {
            Say.due("18 the DEPTH", x, "need(0, " + depth + ")", isDepth(depth) ? 655350 * 3 * depth : -3);
        }
        Say.due("18 none such", x, "need(2, 8)", -2, "need(-1, 8)", -2, "need(MIN, 8)", -2, "need(MAX, 8)", -2);
        Say.due("18 -2 ahead of -3", x, "need(2, 7)", -2, "need(-1, 7)", -2, "need(1, 7)", -3, "need(1, MIN)", -3,
            "need(1, MAX)", -3);
        Say.due("18 no MODES", new ScreenTalk(), "need(0, 8)", -2, "need(0, 7)", -2);
    }

    /** "It CARRIES it, if NEED is ROOM at most.": just as much, and 10 kHz more, of every link and DEPTH. */
    private static void needIsRoomAtMost() {
        int[] rates = {162000, 270000, 540000, 810000};
        for (int lanes = 1; lanes <= 4; lanes *= 2) {
            for (int rate = 0; rate < 4; rate++) {
                for (int depth = 6; depth <= 12; depth += 2) {
                    int clock = lanes * rates[rate] * 8 / 3 / depth / 10;
                    if (clock >= 65535) {
                        continue;
                    }
                    ScreenTalk x = clocks(clock);
                    x.wish(depth);
                    String link = "best(" + lanes + ", " + rate + ", 1)";
                    Say.due("NEED is ROOM", x, "need(0, " + depth + ")", x.room(lanes, rate), link, depth);
                    x = clocks(clock + 1);
                    x.wish(depth);
                    Say.due("NEED is above ROOM", x, link, depth == 6 ? -1 : depth - 2);
                }
            }
        }
    }

    /** "the first MODE that it CARRIES by some DEPTH up to WISH, by the greatest such". */
    private static void bestUpToWish() {
        for (int wish = 6; wish <= 12; wish += 2) {
            ScreenTalk x = clocks(1);
            x.wish(wish);
            Say.due("19 up to WISH", x, "best(1, 0, 0)", 0, "best(1, 0, 1)", wish, "best(4, 3, 1)", wish);
            // 72 MHz by 6, 54 by 8, 43.2 by 10, 36 by 12 need all of one lane of RATE 0
            int[][] rows = {{7201, -1}, {7200, 6}, {5401, 6}, {5400, 8}, {4321, 8}, {4320, 10}, {3601, 10}, {3600, 12}};
            for (int[] r : rows) {
                x = clocks(r[0]);
                x.wish(wish);
                Say.due("19 CLOCK " + r[0], x, "best(1, 0, 1)", Math.min(wish, r[1]), "best(1, 0, 0)", r[1] < 0 ? -1 : 0);
            }
        }
    }

    /** The first MODE by any DEPTH comes ahead of a later one by a greater DEPTH. */
    private static void bestIsTheFirst() {
        ScreenTalk x = clocks(7201, 7200, 3600);
        x.wish(12);
        Say.due("19 the first", x, "best(1, 0, 0)", 1, "best(1, 0, 1)", 6, "best(1, 1, 0)", 0, "best(1, 1, 1)", 8,
            "best(4, 3, 0)", 0, "best(4, 3, 1)", 12);
        Say.due("19 none is CARRIED", clocks(7201, 7300), "best(1, 0, 0)", -1, "best(1, 0, 1)", -1);
        Say.due("19 no MODES", new ScreenTalk(), "best(4, 3, 0)", -1, "best(4, 3, 1)", -1);
    }

    /** Promise 19: "NONE: none is CARRIED; -2: what; -3." */
    private static void bestNumbers() {
        ScreenTalk x = clocks(7200);
        Say.due("19 what", x, "best(4, 3, 1)", 8, "best(4, 3, 2)", -2, "best(4, 3, -1)", -2, "best(4, 3, MIN)", -2,
            "best(4, 3, MAX)", -2);
        Say.due("19 the link", x, "best(0, 3, 0)", -3, "best(3, 3, 0)", -3, "best(5, 3, 0)", -3, "best(8, 3, 0)", -3,
            "best(4, -1, 0)", -3, "best(4, 4, 1)", -3, "best(MIN, 0, 0)", -3, "best(1, MAX, 0)", -3, "best(-4, 0, 0)", -3);
        Say.due("19 -2 ahead of -3", x, "best(3, 4, 2)", -2, "best(0, -1, -1)", -2);
        Say.due("19 both ahead of NONE", new ScreenTalk(), "best(1, 0, 0)", -1, "best(1, 0, 2)", -2, "best(3, 0, 0)", -3,
            "best(1, 4, 1)", -3);
    }

    /** Promise 20: "The link of the least ROOM by which MODE i of a DEPTH is CARRIED": up to each ROOM, and just above. */
    private static void cheapestAtEachRoom() {
        // links by their ROOM: 10, 11, 20 by 2.592, 12 by 4.32, and so on, in tens of kHz of DEPTH 6
        int[][] rows = {{1, 10}, {7200, 10}, {7201, 11}, {12000, 11}, {12001, 20}, {14400, 20}, {14401, 12}, {24000, 12},
            {24001, 40}, {28800, 40}, {28801, 13}, {36000, 13}, {36001, 22}, {48000, 22}, {48001, 23}, {65535, 23}};
        for (int[] r : rows) {
            Say.due("20 CLOCK " + r[0], clocks(r[0]), "cheapest(0, 6)", r[1]);
        }
        int[][] deep = {{36000, 23}, {36001, 42}, {48000, 42}, {48001, 43}, {65535, 43}};
        for (int[] r : deep) {
            Say.due("20 CLOCK " + r[0] + " of 12", clocks(r[0]), "cheapest(0, 12)", r[1]);
        }
    }

    /** "of like ones fewer lanes": 1 of RATE 2 as 2 of RATE 1, 2 of RATE 2 as 4 of RATE 1. */
    private static void cheapestOfFewerLanes() {
        ScreenTalk x = clocks(24000, 48000);
        Say.due("20 like ROOM", x, "room(1, 2)", x.room(2, 1), "room(2, 2)", x.room(4, 1), "cheapest(0, 6)", 12,
            "cheapest(1, 6)", 22);
    }

    /** Promise 20: "NONE; -2; -3.": what bytes tell is always carried by some link. */
    private static void cheapestNumbers() {
        ScreenTalk x = clocks(65535, 1);
        Say.due("20 the greatest there is", x, "cheapest(0, 12)", 43, "cheapest(0, 10)", 43, "cheapest(0, 8)", 42);
        for (int depth = 0; depth <= 14; depth++) {
            Say.due("20 the DEPTH", x, "cheapest(1, " + depth + ")", isDepth(depth) ? 10 : -3);
        }
        Say.due("20 none such", x, "cheapest(2, 8)", -2, "cheapest(-1, 8)", -2, "cheapest(MIN, 8)", -2,
            "cheapest(MAX, 8)", -2);
        Say.due("20 -2 ahead of -3", x, "cheapest(2, 7)", -2, "cheapest(-1, 7)", -2, "cheapest(0, MIN)", -3,
            "cheapest(0, MAX)", -3);
        Say.due("20 no MODES", new ScreenTalk(), "cheapest(0, 8)", -2, "cheapest(0, 7)", -2);
    }
}
