/** Promises 16 to 20: wish, room, need, best, cheapest. */
public final class CarriedTest {
    public static void main(String[] args) {
        wish();
        room();
        need();
        best();
        cheapest();
        Due.end();
    }

    /** A screen of codes: 4K at 60, FULL HD at 60, 720x480 at 60. */
    private static ScreenTalk screen() {
        ScreenTalk x = new ScreenTalk();
        Due.due("load", new Blocks(1).data(1, 0x43, 97, 16, 2).loadSealed(x), 3);
        return x;
    }

    private static void wish() {
        ScreenTalk x = new ScreenTalk();
        Due.due("16 at first", x.count(2), 8);
        int before = 8;
        for (int depth = -2; depth < 16; depth++) {
            boolean so = depth == 6 || depth == 8 || depth == 10 || depth == 12;
            Due.due("16 wish(" + depth + ")", x.wish(depth), so ? before : -3);
            before = so ? depth : before;
            Due.due("16 count(2)", x.count(2), before);
        }
        x.wish(10);
        new Blocks(0).loadSealed(x);
        Due.due("16 bytes don't touch it", x.count(2), 10);
    }

    private static void room() {
        ScreenTalk x = new ScreenTalk();
        int[] rates = {162000, 270000, 540000, 810000};
        for (int lanes = -1; lanes <= 8; lanes++) {
            for (int rate = -1; rate <= 4; rate++) {
                boolean so = (lanes == 1 || lanes == 2 || lanes == 4) && rate >= 0 && rate < 4;
                Due.due("17 room(" + lanes + ", " + rate + ")", x.room(lanes, rate), so ? lanes * rates[rate] * 8 : -3);
            }
        }
    }

    private static void need() {
        ScreenTalk x = screen();
        Due.due("18 need(0, 8)", x.need(0, 8), 14256000);
        Due.due("18 need(0, 12)", x.need(0, 12), 21384000);
        Due.due("18 need(2, 6)", x.need(2, 6), 486000);
        Due.due("18 need(2, 10)", x.need(2, 10), 810000);
        Due.due("18 the mode first", x.need(3, 7), -2);
        Due.due("18 mode -1", x.need(-1, 8), -2);
        Due.due("18 DEPTH", x.need(0, 7), -3);
    }

    private static void best() {
        ScreenTalk x = screen();
        int[][] want = {
            {1, 0, 2, 8}, {1, 1, 2, 8}, {2, 0, 2, 8}, {1, 2, 1, 8}, {4, 0, 1, 8}, {2, 2, 1, 8},
            {4, 2, 0, 8}, {2, 3, 0, 6}, {4, 3, 0, 8}};
        for (int[] w : want) {
            Due.due("19 best(" + w[0] + ", " + w[1] + ", 0)", x.best(w[0], w[1], 0), w[2]);
            Due.due("19 best(" + w[0] + ", " + w[1] + ", 1)", x.best(w[0], w[1], 1), w[3]);
        }
        x.wish(12);
        Due.due("19 deeper", x.best(4, 3, 1), 12);
        Due.due("19 a deeper one of a lesser mode doesn't count", x.best(2, 3, 1), 6);
        Due.due("19 12 has no room", x.best(4, 2, 1), 8);
        x.wish(6);
        Due.due("19 not above WISH", x.best(4, 3, 1), 6);
        Due.due("19 what first", x.best(3, 9, 2), -2);
        Due.due("19 what -1", x.best(4, 2, -1), -2);
        Due.due("19 lanes", x.best(3, 2, 0), -3);
        Due.due("19 RATE", x.best(4, -1, 1), -3);
        ScreenTalk y = new ScreenTalk();
        new Blocks(1).data(1, 0x41, 97).loadSealed(y);
        Due.due("19 none is carried", y.best(1, 0, 0), -1);
        Due.due("19 no DEPTH", y.best(1, 0, 1), -1);
        edge();
    }

    /** NEED is ROOM at most: 72,000 kHz of DEPTH 6 need just what a lane of RATE 0 has. */
    private static void edge() {
        for (int clock = 7199; clock <= 7201; clock++) {
            ScreenTalk x = new ScreenTalk();
            new Blocks(0).detailed(54, clock, 1000, 200, 0, 0, 1000, 0, 0, 0).loadSealed(x);
            Due.due("19 CLOCK " + clock, x.best(1, 0, 1), clock <= 7200 ? 6 : -1);
            Due.due("20 CLOCK " + clock, x.cheapest(0, 6), clock <= 7200 ? 10 : 11);
        }
    }

    private static void cheapest() {
        ScreenTalk x = screen();
        Due.due("20 cheapest(0, 6)", x.cheapest(0, 6), 23);
        Due.due("20 cheapest(0, 8)", x.cheapest(0, 8), 42);
        Due.due("20 cheapest(0, 12)", x.cheapest(0, 12), 43);
        Due.due("20 cheapest(1, 8)", x.cheapest(1, 8), 12);
        Due.due("20 cheapest(1, 10)", x.cheapest(1, 10), 40);
        Due.due("20 cheapest(2, 12)", x.cheapest(2, 12), 10);
        ScreenTalk y = new ScreenTalk();
        new Blocks(1).detailed(54, 65535, 1000, 200, 0, 0, 1000, 0, 0, 0)
            .detailed(72, 12000, 1000, 200, 0, 0, 1000, 0, 0, 0).loadSealed(y);
        Due.due("20 23.6 of 25.9 millions", y.cheapest(0, 12), 43);
        // 2,160,000 by DEPTH 6: one lane of RATE 1; 4,320,000 by 12: one of RATE 2, not two of RATE 1
        Due.due("20 RATE 1", y.cheapest(1, 6), 11);
        Due.due("20 fewer lanes", y.cheapest(1, 12), 12);
        Due.due("20 two lanes of RATE 0", y.cheapest(1, 8) , 12);
        Due.due("20 the mode first", x.cheapest(3, 7), -2);
        Due.due("20 mode -1", x.cheapest(-1, 8), -2);
        Due.due("20 DEPTH", x.cheapest(0, 9), -3);
    }
}
