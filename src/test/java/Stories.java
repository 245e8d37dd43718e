import java.util.ArrayList;
import java.util.List;
import java.util.function.Consumer;

/**
 * All that an object can be asked for, in stories that are short enough for the 512 calls of one object. Two objects
 * of which one has heard a refused call tell the same stories.
 */
final class Stories {
    private final Consumer<ScreenTalk> making;
    private final List<List<Say>> all = new ArrayList<>();
    private final List<int[]> due = new ArrayList<>();

    /** Of an object that was made so; taken: of bytes that were taken and THE TAPE nothing is asked. */
    Stories(Consumer<ScreenTalk> making, boolean taken) {
        this.making = making;
        if (!taken) {
            tellOfTape();
        }
        tellOfScreen();
        tellOfModes();
        tellOfLinks();
        tellOfTraining();
        for (List<Say> story : all) {
            ScreenTalk x = new ScreenTalk();
            making.accept(x);
            due.add(told(x, story));
        }
    }

    private List<Say> story(String... calls) {
        List<Say> story = new ArrayList<>();
        for (String call : calls) {
            story.add(new Say(call));
        }
        all.add(story);
        return story;
    }

    /** Every call of this name with a first number from 0 to one below a, and a second one from 0 to one below b. */
    private static void ask(List<Say> story, String name, int a, int b) {
        for (int i = 0; i < a; i++) {
            if (b == 0) {
                story.add(new Say(name + "(" + i + ")"));
            }
            for (int k = 0; k < b; k++) {
                story.add(new Say(name + "(" + i + ", " + k + ")"));
            }
        }
    }

    private void tellOfTape() {
        List<Say> latest = story("count(1)", "fault(0)", "fault(1)");
        for (int i = 0; i <= 520; i += 2) {
            latest.add(new Say("mend(" + i + ")"));
        }
        // what is on THE TAPE is seen when it is taken
        List<Say> tape = story("load(ALL)", "fault(0)", "fault(1)", "count(0)", "told(16)", "count(1)");
        for (int i = 0; i <= 520; i += 2) {
            tape.add(new Say("mend(" + i + ")"));
        }
        List<Say> more = story();
        for (int i = 0; i < 27; i++) {
            more.add(new Say("feed(1, 2, 3, 4, 5)"));
        }
    }

    private void tellOfScreen() {
        List<Say> told = story("count(0)", "count(2)", "count(3)", "count(4)");
        ask(told, "told", 28, 0);
        ask(told, "name", 14, 0);
        ask(told, "forged", 128, 0);
        ask(story(), "detailed", 23, 11);
    }

    private void tellOfModes() {
        ask(story(), "mode", 41, 9);
        ask(story(), "called", 25, 14);
    }

    private void tellOfLinks() {
        List<Say> story = story("enough()");
        for (int link = 0; link < 24; link++) {
            story.add(new Say("best(" + (1 << link / 8) + ", " + link / 2 % 4 + ", " + link % 2 + ")"));
        }
        ask(story, "would", 2, 0);
        ask(story, "trained", 6, 0);
        ask(story, "margin", 4, 0);
        ask(story, "laid", 2, 0);
        // WISH is seen when another one is told
        story.add(new Say("wish(12)"));
        story.add(new Say("best(4, 3, 1)"));
    }

    private void tellOfTraining() {
        List<Say> story = story();
        ask(story, "state", 8, 0);
        ask(story, "level", 4, 6);
        ask(story, "fall", 13, 4);
        ask(story, "shown", 3, 0);
        ask(story(), "step", 60, 7);
        // what a TRY remembers is seen by the next ones
        List<Say> on = story();
        for (int i = 0; i < 24; i++) {
            on.add(new Say("tries(1)"));
            ask(on, "state", 8, 0);
            ask(on, "level", 1, 6);
        }
    }

    private static int[] told(ScreenTalk x, List<Say> story) {
        int[] answers = new int[story.size()];
        for (int i = 0; i < answers.length; i++) {
            answers[i] = story.get(i).to(x);
        }
        return answers;
    }

    /** Says this call to an object that was made so: it answers this, and nothing else is another thing. */
    void unchangedBy(String what, String call, int want) {
        Say said = new Say(call);
        for (int s = 0; s < due.size(); s++) {
            ScreenTalk x = new ScreenTalk();
            making.accept(x);
            Due.due(what + ": " + call, said.to(x), want);
            int[] answers = told(x, all.get(s));
            for (int i = 0; i < answers.length; i++) {
                Due.due(what + ": " + all.get(s).get(i) + " behind " + call, answers[i], due.get(s)[i]);
            }
        }
    }

    ScreenTalk made() {
        ScreenTalk x = new ScreenTalk();
        making.accept(x);
        return x;
    }
}
