/** "Refusals change nothing: BAD (..), then FULL, then CAST, INDEX", a test for each half and each call. */
public final class RefusalsTest implements Words {
    private final Check check = new Check("RefusalsTest");

    public static void main(String[] args) {
        RefusalsTest test = new RefusalsTest();
        test.badBeforeFull();
        test.badBeforeCast();
        test.castBeforeIndex();
        test.refusedPropChangesNothing();
        test.refusedSetChangesNothing();
        test.refusedSlotChangesNothing();
        test.refusedCueChangesNothing();
        test.refusedPlayChangesNothing();
        test.refusedAnswersChangeNothing();
        test.check.end();
    }

    /** A store in which everything stands somewhere: wear, points, hand, rows, numbers, a miscue, two cues. */
    private Run busy(String sentence) {
        Run x = new Run(check, sentence).oneOfEachKind();
        for (int kind = SCRIPT; kind <= PLAN; kind++) {
            x.set(kind, 1, kind + 1).due(1);
        }
        x.lay(CROWN, CASE, 1).lay(CASE, VAULT, 0);
        x.give(SWORD);
        x.slot(0, VAULT);
        x.slot(9, CROWN);
        x.cue(WEAR, 0, VAULT, 0).due(0);
        x.cue(SHOW, 9, MASK, 0).due(1);
        x.play(0, 1).due(1);
        x.cue(SHOW, 9, CROWN, 0).due(2);
        x.play(2, 2).due(1);
        x.play(0, 1).due(1);
        return x;
    }

    /** The cues are as they were written: they do again what they did. */
    private void dueCues(Run x) {
        x.count(1).due(3);
        x.wear(CROWN).due(2);
        x.points().due(180);
        x.play(0, 1).due(1);
        x.wear(CROWN).due(3);
        x.dueMiscue(CAST, 1, 3);
        x.play(2, 2).due(1);
        x.points().due(360);
        x.play(3, 3).due(BAD);
    }

    private void badBeforeFull() {
        Run x = new Run(check, "BAD .., then FULL");
        for (int k = 0; k < 50; k++) {
            x.prop(RAIL, 5);
        }
        for (int k = 0; k < 30; k++) {
            x.cue(TAKE, 0, RAIL, 0);
        }
        x.prop(RAIL, 5).due(FULL);
        x.prop(RAIL, 6).due(BAD);
        x.prop(RAIL, -1).due(BAD);
        x.prop(COSTUME, 100).due(FULL);
        x.prop(COSTUME, 101).due(BAD);
        x.prop(16, 0).due(BAD);
        x.prop(-1, 0).due(BAD);
        x.cue(TAKE, 9, TRUNK_STORE, 9).due(FULL);
        x.cue(6, 0, RAIL, 0).due(BAD);
        x.cue(-1, 0, RAIL, 0).due(BAD);
        x.cue(TAKE, 10, RAIL, 0).due(BAD);
        x.cue(TAKE, -1, RAIL, 0).due(BAD);
        x.cue(TAKE, 0, SWORD, 0).due(BAD);
        x.cue(TAKE, 0, CARRIED, 0).due(BAD);
        x.cue(SHOW, 0, 17, 0).due(BAD);
        x.cue(SHOW, 0, -1, 0).due(BAD);
        x.cue(TAKE, 0, RAIL, 10).due(BAD);
        x.cue(TAKE, 0, RAIL, -1).due(BAD);
    }

    private void badBeforeCast() {
        Run x = new Run(check, "BAD .. then CAST, INDEX").oneOfEachKind();
        int[] noProp = {LOWEST, -2, NONE, 16, 50, HIGHEST};
        for (int prop : noProp) {
            x.set(prop, 0, 1).due(BAD);
            x.set(prop, -1, 1).due(BAD);
            x.set(prop, 9, 1).due(BAD);
            x.wear(prop).due(BAD);
            x.at(prop, 0).due(BAD);
            x.at(prop, -1).due(BAD);
            x.at(prop, 9).due(BAD);
        }
    }

    private void castBeforeIndex() {
        Run x = new Run(check, "CAST, INDEX").oneOfEachKind();
        int[] noPlace = {LOWEST, -1, 9, HIGHEST};
        for (int i : noPlace) {
            for (int kind = SCRIPT; kind <= TRUNK_STORE; kind++) {
                x.set(kind, i, 1).due(kind <= PLAN ? INDEX : CAST);
                x.at(kind, i).due(kind >= RAIL ? INDEX : CAST);
            }
        }
    }

    private void refusedPropChangesNothing() {
        Run x = busy("Refusals change nothing: prop");
        String before = x.state();
        x.prop(-1, 0).due(BAD);
        x.prop(16, 0).due(BAD);
        x.prop(SCRIPT, 6).due(BAD);
        x.prop(RAIL, -1).due(BAD);
        x.prop(SWORD, 101).due(BAD);
        x.dueState(before);
        dueCues(x);
        for (int k = 16; k < 50; k++) {
            x.prop(SWORD, 1).due(k);
        }
        x.prop(SWORD, 2).due(FULL);
        x.count(0).due(50);
        x.worth(49, SWORD).due(1);
        x.worth(SWORD, SWORD).due(70);
        x.hand().due(SWORD);
        x.prop(16, 2).due(BAD);
        x.count(0).due(50);
    }

    private void refusedSetChangesNothing() {
        Run x = busy("Refusals change nothing: set");
        String before = x.state();
        x.set(-1, 0, 99).due(BAD);
        x.set(16, 0, 99).due(BAD);
        for (int kind = COSTUME; kind <= TRUNK_STORE; kind++) {
            x.set(kind, 1, 99).due(CAST);
        }
        for (int kind = SCRIPT; kind <= PLAN; kind++) {
            x.set(kind, -1, 99).due(INDEX);
            x.set(kind, kind == PLAN ? 6 : 2, 99).due(INDEX);
        }
        x.dueState(before);
        dueCues(x);
    }

    private void refusedSlotChangesNothing() {
        Run x = busy("Refusals change nothing: slot");
        String before = x.state();
        x.slot(-1, 3).due(BAD);
        x.slot(10, 3).due(BAD);
        x.slot(10, NONE).due(BAD);
        x.slot(0, 16).due(BAD);
        x.slot(9, -2).due(BAD);
        x.slot(5, HIGHEST).due(BAD);
        x.slot(5, LOWEST).due(BAD);
        x.dueState(before);
        dueCues(x);
    }

    private void refusedCueChangesNothing() {
        Run x = busy("Refusals change nothing: cue");
        String before = x.state();
        x.cue(-1, 0, RAIL, 0).due(BAD);
        x.cue(6, 0, RAIL, 0).due(BAD);
        x.cue(SHOW, 10, RAIL, 0).due(BAD);
        x.cue(SHOW, 0, 17, 0).due(BAD);
        x.cue(WEAR, 0, SWORD, 0).due(BAD);
        x.cue(LAY, 0, CROWN, 0).due(BAD);
        x.cue(SHARE, 0, RAIL, 10).due(BAD);
        x.dueState(before);
        dueCues(x);
        for (int k = 3; k < 30; k++) {
            x.cue(SHARE, 1, RAIL, 2).due(k);
        }
        x.cue(SHARE, 0, VAULT, 2).due(FULL);
        x.cue(SHARE, 0, VAULT, 10).due(BAD);
        x.play(3, 29).due(27);
        x.held(2).due(NONE);
        x.play(0, 1).due(1);
        x.wear(CROWN).due(4);
        x.points().due(360);
    }

    private void refusedPlayChangesNothing() {
        Run x = busy("Refusals change nothing: play");
        String before = x.state();
        x.play(-1, 2).due(BAD);
        x.play(0, 3).due(BAD);
        x.play(2, 1).due(BAD);
        x.play(3, 3).due(BAD);
        x.play(LOWEST, HIGHEST).due(BAD);
        x.dueState(before);
        x.dueMiscue(CAST, 1, 2);
        dueCues(x);
    }

    private void refusedAnswersChangeNothing() {
        Run x = busy("Refusals change nothing: held, miscue, is, worth, wear, at, count");
        String before = x.state();
        x.held(-1).due(BAD);
        x.held(10).due(BAD);
        x.miscue(-1).due(BAD);
        x.miscue(3).due(BAD);
        x.is(16, 0).due(BAD);
        x.is(0, 17).due(BAD);
        x.worth(16, 0).due(0);
        x.worth(CROWN, MASK).due(0);
        x.wear(16).due(BAD);
        x.wear(SWORD).due(CAST);
        x.at(16, 0).due(BAD);
        x.at(CROWN, 0).due(CAST);
        x.at(CASE, 2).due(INDEX);
        x.count(2).due(BAD);
        x.count(-1).due(BAD);
        x.dueState(before);
        x.dueMiscue(CAST, 1, 2);
        dueCues(x);
    }
}
