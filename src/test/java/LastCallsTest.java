/** "An object is used for at most 512 calls after it has been made": what grows with the calls, up to the last. */
public final class LastCallsTest implements Words {
    private final Check check = new Check("LastCallsTest");

    public static void main(String[] args) {
        LastCallsTest test = new LastCallsTest();
        test.wearUpToTheLastCall();
        test.pointsUpToTheLastCall();
        test.pointsDownToTheLastCall();
        test.miscuesUpToTheLastCall();
        test.propsUpToTheLastCall();
        test.cuesUpToTheLastCall();
        test.handsUpToTheLastCall();
        test.check.end();
    }

    private Run on(String what) {
        return new Run(check, "An object is used for at most 512 calls: " + what);
    }

    private void dueAllUsed(Run x) {
        check.due("calls that were used", x.calls(), Run.MOST_CALLS);
    }

    /** The most wear that one play can give: 30 cues, five rows of five places, the same crown at each. */
    private void wearUpToTheLastCall() {
        Run x = on("WEAR");
        x.prop(VAULT, 5).due(0);
        x.prop(CASE, 5).due(1);
        x.prop(CROWN, 100).due(2);
        for (int i = 0; i < 5; i++) {
            x.lay(2, 1, i).lay(1, 0, i);
        }
        x.slot(0, 0);
        for (int k = 0; k < 30; k++) {
            x.cue(WEAR, 0, k % 2 == 0 ? VAULT : WARDROBE, 0);
        }
        int wear = 0;
        while (x.calls() < Run.MOST_CALLS - 3) {
            x.play(0, 29).due(30);
            wear += 750;
        }
        x.worth(2, COSTUME).due(100 + wear);
        x.worth(0, WARDROBE).due(25L * (100 + wear));
        x.wear(2).due(wear);
        dueAllUsed(x);
        check.that("wear beyond 16 bits", wear > 65536);
    }

    private void pointsUpToTheLastCall() {
        showSounds(on("POINTS"), HIGHEST);
    }

    private void pointsDownToTheLastCall() {
        showSounds(on("POINTS below 0"), LOWEST);
    }

    private void showSounds(Run x, int v) {
        x.prop(SOUNDS, 5).due(0);
        for (int i = 0; i < 5; i++) {
            x.set(0, i, v).due(1);
        }
        x.slot(9, 0);
        for (int k = 0; k < 30; k++) {
            x.cue(SHOW, 9, SOUNDS, 0).due(k);
        }
        long points = 0;
        while (x.calls() < Run.MOST_CALLS - 1) {
            x.play(0, 29).due(30);
            points += 150L * v;
        }
        x.points().due(points);
        dueAllUsed(x);
    }

    private void miscuesUpToTheLastCall() {
        Run x = on("how often there was a MISCUE, in all");
        x.cue(SWAP, 0, 0, 0);
        x.cue(SHOW, 0, 0, 0);
        int often = 0;
        while (x.calls() < Run.MOST_CALLS - 3) {
            x.play(0, 1).due(1);
            often++;
        }
        x.dueMiscue(EMPTY, 1, often);
        dueAllUsed(x);
    }

    private void propsUpToTheLastCall() {
        Run x = on("PROPS");
        for (int k = 0; k < 50; k++) {
            x.prop(SWORD, k).due(k);
        }
        while (x.calls() < Run.MOST_CALLS - 2) {
            x.prop(SWORD, 100).due(FULL);
        }
        x.worth(49, SWORD).due(49);
        x.count(0).due(50);
        dueAllUsed(x);
    }

    private void cuesUpToTheLastCall() {
        Run x = on("CUES");
        x.prop(COSTUME, 1).due(0);
        x.slot(0, 0).due(NONE);
        int wear = 0;
        while (x.calls() < Run.MOST_CALLS - 34) {
            for (int k = 0; k < 30; k++) {
                x.cue(WEAR, 0, COSTUME, 0).due(k);
            }
            x.play(0, 29).due(30);
            x.strike().due(30);
            wear += 30;
        }
        while (x.calls() < Run.MOST_CALLS - 1) {
            x.cue(SHOW, 0, COSTUME, 0);
        }
        x.wear(0).due(wear);
        dueAllUsed(x);
    }

    private void handsUpToTheLastCall() {
        Run x = on("THE HAND");
        x.prop(TRUNK, 1).due(0);
        x.prop(SWORD, 1).due(1);
        x.slot(0, 0);
        x.give(1);
        x.cue(LAY, 0, TRUNK, 0).due(0);
        x.cue(TAKE, 0, TRUNK, 0).due(1);
        while (x.calls() < Run.MOST_CALLS - 4) {
            x.play(0, 1).due(2);
        }
        x.play(0, 0).due(1);
        x.at(0, 0).due(1);
        x.play(1, 1).due(1);
        x.hand().due(1);
        dueAllUsed(x);
    }
}
