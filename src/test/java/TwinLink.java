import java.util.ArrayList;
import java.util.List;

/** The training of the document once more, lane by lane. */
final class TwinLink {
    static final class Lane {
        int loss;
        int slow;
        int swing;
        int emphasis;
        boolean clocked;
        boolean even;

        boolean wantsSwing(int rate) {
            return swing * 5 + 14 - loss - rate * 2 < 0;
        }

        boolean wantsEmphasis(int rate) {
            return emphasis * 3 + 8 - loss / 2 - rate * 5 < 0;
        }
    }

    final List<Lane> all = new ArrayList<>();
    final List<int[]> steps = new ArrayList<>();
    final List<int[]> falls = new ArrayList<>();
    final int wireRate;
    int phase = 1;
    int lanes;
    int rate;
    int tried;
    int lastSwing;

    TwinLink(int[] loss, int[] slow, int wireLanes, int wireRate) {
        for (int l = 0; l < 4; l++) {
            Lane lane = new Lane();
            lane.loss = loss[l];
            lane.slow = slow[l];
            all.add(lane);
        }
        lanes = wireLanes;
        rate = wireRate;
        this.wireRate = wireRate;
    }

    List<Lane> live() {
        return all.subList(0, lanes);
    }

    int room() {
        return phase == 3 ? Twin.RATES[rate] * lanes * 8 : 0;
    }

    TwinLink finish() {
        while (phase < 3) {
            attempt();
        }
        return this;
    }

    void attempt() {
        int was = phase;
        int[] step = {phase, lanes, rate, digits(false), digits(true), 0, 0};
        steps.add(step);
        tried++;
        step[6] = phase == 1 ? clock() : even();
        for (int l = 0; l < lanes; l++) {
            boolean good = was == 1 ? all.get(l).clocked : all.get(l).even;
            step[5] += good ? 1 << l : 0;
        }
        if (step[6] > 0 && step[6] < 7) {
            falls.add(new int[] {step[6], lanes, rate, tried});
            drop(was);
        } else if (step[6] > 6) {
            tried = 0;
        }
    }

    private int digits(boolean emphasis) {
        String text = "";
        for (Lane lane : all) {
            text += emphasis ? lane.emphasis : lane.swing;
        }
        return Integer.parseInt(text);
    }

    private int clock() {
        live().forEach(lane -> lane.clocked = !lane.wantsSwing(rate) && tried > lane.slow);
        if (live().stream().allMatch(lane -> lane.clocked)) {
            phase = 2;
            return 7;
        }
        if (live().stream().anyMatch(lane -> lane.wantsSwing(rate) && lane.swing == 3)) {
            return 1;
        }
        if (tried == 10) {
            return 2;
        }
        if (tried - lastSwing == 7) {
            return 3;
        }
        for (Lane lane : live()) {
            if (lane.wantsSwing(rate)) {
                lane.swing++;
                lastSwing = tried;
            }
        }
        return 0;
    }

    private int even() {
        live().forEach(lane -> lane.even = false);
        if (live().stream().anyMatch(lane -> lane.wantsSwing(rate))) {
            return 4;
        }
        live().forEach(lane -> lane.even = !lane.wantsEmphasis(rate) && tried > lane.slow - 2);
        if (live().stream().allMatch(lane -> lane.even)) {
            phase = 3;
            return 8;
        }
        if (tried == 6) {
            return 5;
        }
        if (live().stream().anyMatch(lane -> lane.wantsEmphasis(rate) && lane.emphasis == 3)) {
            return 6;
        }
        for (Lane lane : live()) {
            if (lane.wantsEmphasis(rate)) {
                lane.emphasis++;
                lane.swing -= lane.swing + lane.emphasis > 3 ? 1 : 0;
            }
        }
        return 0;
    }

    private void drop(int was) {
        boolean lessRate = was == 1 ? rate > 0 : lanes == 1;
        phase = lanes == 1 && rate == 0 ? 4 : 1;
        if (phase == 1 && lessRate) {
            rate--;
        } else if (phase == 1) {
            lanes /= 2;
            rate = was == 1 ? wireRate : rate;
        }
        tried = 0;
        lastSwing = 0;
        for (Lane lane : all) {
            lane.swing = 0;
            lane.emphasis = 0;
            lane.clocked = false;
            lane.even = false;
        }
    }
}
