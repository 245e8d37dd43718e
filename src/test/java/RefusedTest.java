import java.util.LinkedHashMap;
import java.util.Map;
import java.util.function.Consumer;

/** "Refused calls answer by a code and change nothing": each such call in each kind of state. */
public final class RefusedTest {
    private static final int[] FULL_HD = {1920, 280, 88, 44, 1080, 45, 4, 5};

    /** Calls that no state takes, by their codes. */
    private static final String[] NONE_SUCH = {"told(-1)", "told(17)", "told(19)", "told(27)", "told(MIN)", "told(MAX)",
        "detailed(-1, 0)", "detailed(22, 0)", "detailed(0, -1)", "detailed(0, 11)", "detailed(MAX, MAX)", "forged(-1)",
        "forged(128)", "forged(MIN)", "forged(MAX)", "mode(-1, 0)", "mode(40, 0)", "mode(0, -1)", "mode(0, 9)",
        "mode(MIN, MIN)", "called(-1, 0)", "called(40, 0)", "called(MAX, -1)", "formula(-1, 64, 48, 60, 0)",
        "formula(2, 64, 48, 60, 0)", "formula(0, 64, 48, 60, -1)", "formula(1, 64, 48, 60, 10)", "formula(2, 0, 0, 0, 0)",
        "descriptor(-1, 64, 48, 60, 0)", "descriptor(2, 64, 48, 60, 0)", "descriptor(0, 64, 48, 60, -1)",
        "descriptor(1, 64, 48, 60, 18)", "descriptor(2, 0, 0, 0, 0)", "fastest(-1, 64, 48, 1, 0, 6)",
        "fastest(2, 64, 48, 1, 0, 6)", "fastest(2, 0, 0, 0, 0, 0)", "need(-1, 8)", "need(40, 8)", "need(40, 7)",
        "best(4, 2, -1)", "best(4, 2, 2)", "best(3, 4, 2)", "cheapest(-1, 8)", "cheapest(40, 8)", "cheapest(40, 7)",
        "lane(-1, 0, 0)", "lane(4, 0, 0)", "lane(4, 31, 13)", "lane(MIN, 0, 0)", "lane(MAX, 0, 0)", "state(-1)", "state(8)",
        "state(MIN)", "state(MAX)", "level(-1, 0)", "level(4, 0)", "level(0, -1)", "level(0, 6)", "level(MAX, MAX)",
        "fall(-1, 0)", "fall(12, 0)", "fall(0, -1)", "fall(0, 4)", "fall(MAX, 0)", "step(-1, 0)", "step(192, 0)", "step(0, -1)",
        "step(0, 7)", "step(MAX, 0)", "shown(-1)", "shown(3)", "shown(MIN)", "trained(-1)", "trained(6)", "trained(MAX)",
        "margin(-1)", "margin(4)", "margin(MIN)", "laid(-1)", "laid(2)", "laid(MAX)", "would(-1)", "would(2)", "would(MIN)"};
    private static final String[] CANT_BE = {"load(-1)", "load(MIN)", "load(521)", "load(MAX)", "mend(-1)", "mend(MIN)",
        "name(-1)", "name(MIN)", "formula(0, 63, 48, 60, 0)", "formula(1, 4096, 48, 60, 0)", "formula(0, 64, 47, 60, 0)",
        "formula(1, 64, 4096, 60, 0)", "formula(0, 64, 48, 19, 0)", "formula(1, 64, 48, 241, 0)",
        "descriptor(0, 63, 48, 60, 0)", "descriptor(1, 4096, 48, 60, 0)", "descriptor(0, 64, 47, 60, 0)",
        "descriptor(1, 64, 4096, 60, 0)", "descriptor(0, 64, 48, 19, 0)", "descriptor(1, 64, 48, 241, 0)",
        "fastest(0, 63, 48, 1, 0, 6)", "fastest(1, 64, 4096, 1, 0, 6)", "fastest(0, 64, 48, 3, 0, 6)",
        "fastest(0, 64, 48, 1, 4, 6)", "fastest(1, 64, 48, 1, 0, 7)", "wish(5)", "wish(7)", "wish(9)", "wish(11)", "wish(13)",
        "wish(4)", "wish(14)", "wish(0)", "wish(-8)", "wish(MIN)", "wish(MAX)", "room(0, 0)", "room(3, 0)", "room(5, 0)",
        "room(1, -1)", "room(1, 4)", "room(MIN, MAX)", "best(0, 2, 0)", "best(3, 2, 0)", "best(4, -1, 0)", "best(4, 4, 1)",
        "lane(0, -1, 0)", "lane(0, 31, 0)", "lane(3, 0, -1)", "lane(3, 0, 13)", "lane(1, MIN, 0)", "lane(1, MAX, 0)",
        "lane(2, 0, MIN)", "lane(2, 0, MAX)", "wire(0, 0)", "wire(3, 0)", "wire(5, 2)", "wire(8, 2)", "wire(1, -1)",
        "wire(1, 4)", "wire(MIN, 0)", "wire(4, MAX)", "tries(0)", "tries(-1)", "tries(101)", "tries(MIN)", "tries(MAX)"};
    private static final String[] NO_ROOM = {"descriptor(0, 4095, 4095, 240, 0)", "descriptor(1, 4016, 3926, 40, 17)",
        "descriptor(1, 800, 1363, 117, 10)"};
    private static final String[] NO_BLOCKS = {"told(0)", "told(16)", "told(20)", "told(26)", "forged(0)", "forged(127)"};

    /** Calls that only ask: they are taken, and change nothing either. */
    private static final String[] ASKED = {"fault(0)", "mend(0)", "mend(MAX)", "name(0)", "find(1920, 1080, 60)",
        "formula(1, 64, 48, 60, 8)", "descriptor(0, 64, 48, 60, 0)", "fastest(0, 4095, 4095, 1, 0, 12)", "room(4, 3)",
        "best(1, 0, 0)", "state(6)", "level(0, 2)", "trained(3)", "margin(0)", "margin(3)", "laid(1)", "enough()", "would(1)",
        "count(1)", "count(-1)"};

    public static void main(String[] args) {
        for (Map.Entry<String, Consumer<ScreenTalk>> state : states().entrySet()) {
            everywhere(state.getKey(), new Stories(state.getValue(), false));
        }
        faults();
        Due.end();
    }

    private static Map<String, Consumer<ScreenTalk>> states() {
        Map<String, Consumer<ScreenTalk>> all = new LinkedHashMap<>();
        all.put("a new object", x -> { });
        all.put("a tape", RefusedTest::someTape);
        all.put("a full tape", RefusedTest::fullTape);
        all.put("BLOCKS", RefusedTest::screen);
        all.put("a FAULT behind BLOCKS", x -> {
            screen(x);
            new Blocks(0).set(60, 9).load(x);
        });
        all.put("BLOCKS and a full tape", x -> {
            screen(x);
            fullTape(x);
        });
        int[] tries = {0, 3, 5, 9, 12, 100};
        for (int n : tries) {
            all.put("BLOCKS, a tape, " + n + " TRIES", x -> {
                screen(x);
                someTape(x);
                link(x, n);
            });
        }
        all.put("UP", x -> {
            screen(x);
            x.begin();
            x.tries(100);
        });
        all.put("DOWN", x -> {
            screen(x);
            x.lane(0, 30, 0);
            x.begin();
            x.tries(100);
        });
        all.put("TRAINING is over", x -> {
            link(x, 12);
            x.wire(2, 1);
        });
        return all;
    }

    /** A right BASE and twelve bytes more, not taken yet. */
    private static void someTape(ScreenTalk x) {
        new Blocks(0).detailed(54, 1234, FULL_HD).sealed().fed(x);
    }

    private static void fullTape(ScreenTalk x) {
        new Blocks(3).detailed(54, 4321, FULL_HD).sealed().fed(x);
    }

    private static void screen(ScreenTalk x) {
        new Blocks(1).detailed(54, 14850, FULL_HD).named(72, "Screen").range(90, 20, 200, 20, 200, 60)
            .set(35, 0x25, 0x0B).set(38, 0x81, 0x80, 0xD1, 0xC0)
            .data(1, 0x44, 97, 16, 5, 1, 0x23, 1, 1, 1, 0x67, 3, 12, 0, 0, 0, 0, 100).loadSealed(x);
        x.wish(10);
    }

    /** PHASE 2 by the 4th TRY, FALLS by 4 by the 6th, and so on till it is UP at RATE 0. */
    private static void link(ScreenTalk x, int tries) {
        x.lane(0, 23, 0);
        x.lane(1, 30, 3);
        x.lane(2, 9, 12);
        x.wire(1, 3);
        x.begin();
        if (tries > 0) {
            x.tries(tries);
        }
    }

    private static void each(String state, Stories stories, int code, String... calls) {
        for (String call : calls) {
            stories.unchangedBy(state, call, code);
        }
    }

    private static void everywhere(String state, Stories stories) {
        each(state, stories, -2, NONE_SUCH);
        each(state, stories, -3, CANT_BE);
        each(state, stories, -5, NO_ROOM);
        ScreenTalk x = stories.made();
        each(state, stories, -3, "load(" + (x.count(1) + 1) + ")");
        if (x.count(1) == 520) {
            each(state, stories, -4, "feed(1, 2, 3, 4, 5)", "feed(0, 0, 0, 0, 0)", "feed(MIN, MAX, -1, MIN, MAX)");
        }
        if (x.count(0) == 0) {
            each(state, stories, -5, NO_BLOCKS);
        }
        ofModes(state, stories, x);
        ofTraining(state, stories, x);
        for (String call : ASKED) {
            stories.unchangedBy(state, call, Say.to(x, call));
        }
    }

    private static void ofModes(String state, Stories stories, ScreenTalk x) {
        int modes = x.count(0) == 0 ? 0 : x.told(16);
        int detailed = x.count(0) == 0 ? 0 : x.told(6);
        each(state, stories, -2, "mode(" + modes + ", 0)", "called(" + modes + ", 0)", "called(" + modes + ", -1)",
            "need(" + modes + ", 8)", "cheapest(" + modes + ", 7)", "detailed(" + detailed + ", 0)");
        if (modes > 0) {
            each(state, stories, -3, "called(0, -1)", "called(0, MIN)", "need(0, 7)", "need(0, 13)", "cheapest(0, 5)",
                "cheapest(0, MAX)");
        }
    }

    private static void ofTraining(String state, Stories stories, ScreenTalk x) {
        int phase = x.state(0);
        each(state, stories, -2, "fall(" + x.state(5) + ", 0)", "step(" + x.state(4) + ", 0)");
        if (phase == 0 || phase > 2) {
            each(state, stories, -5, "tries(1)", "tries(100)");
        }
        if (phase != 3) {
            each(state, stories, -5, "shown(0)", "shown(1)", "shown(2)");
        }
    }

    /** "-30 less the FAULT: bytes (THE TAPE is empty then; nothing else changes)". */
    private static void faults() {
        for (int kind = 1; kind <= 7; kind++) {
            int wrong = kind;
            for (int n : new int[] {0, 3, 5, 9, 12, 100}) {
                Consumer<ScreenTalk> making = x -> {
                    screen(x);
                    link(x, n);
                    faulty(wrong).fed(x);
                };
                int length = kind == 1 ? 300 : 384;
                Stories stories = new Stories(making, true);
                stories.unchangedBy("FAULT " + kind, "load(" + length + ")", -30 - kind);
                ScreenTalk x = stories.made();
                x.load(length);
                Say.due("FAULT " + kind, x, "count(1)", 0, "load(1)", -3, "count(0)", 2, "fault(0)", kind);
            }
        }
    }

    private static Blocks faulty(int kind) {
        Blocks blocks = new Blocks(2).named(54, "wrong").range(72, 1, 1, 1, 1, 1).set(35, 255, 255);
        switch (kind) {
            case 2: return blocks.set(256, 1).sealed();
            case 3: return blocks.sealed().set(383, 7);
            case 4: return blocks.set(18, 2).sealed();
            case 5: return blocks.set(126, 1).sealed();
            case 6: return blocks.set(258, 3).sealed();
            case 7: return blocks.data(2, 0, 0x41).sealed();
            default: return blocks.sealed();
        }
    }
}
