/** The boundary cases of "TO PLAY" a cue in the section "Terms", a test for each sentence. */
public final class CueBoundariesTest implements Words {
    private final Check check = new Check("CueBoundariesTest");

    public static void main(String[] args) {
        CueBoundariesTest test = new CueBoundariesTest();
        test.thirtyCuesAtMost();
        test.cuesAreNumberedAsTheyAreWritten();
        test.castComesFirstInEachAct();
        test.showOfNothing();
        test.showOfARowOfNothing();
        test.wearOfNothing();
        test.wearOfARowOfNothing();
        test.wearHasItsViewsAlone();
        test.wearAsOftenAsItStandsThere();
        test.wearInTheRowsInIt();
        test.wearIsSeenByNothingElse();
        test.takeOfEachPlace();
        test.takeLeavesNothingThere();
        test.takeOfNothing();
        test.takeLosesWhatTheHandHad();
        test.takeOfTheSameTwice();
        test.layOfEachPlace();
        test.layLeavesTheHandWithNothing();
        test.layOverWhatIsThere();
        test.layInOrder();
        test.layStoreOfEachRow();
        test.layOfWhatTheRowIsFor();
        test.swapWithNothing();
        test.swapTakesTheSlotAlone();
        test.shareToTheFirstAndTheLastSlot();
        test.shareOfNothing();
        test.shareToItself();
        test.aMiscueDoesNothing();
        test.check.end();
    }

    private Run on(String sentence) {
        return new Run(check, sentence);
    }

    private void thirtyCuesAtMost() {
        Run x = on("CUES, 30 at most");
        for (int k = 0; k < 30; k++) {
            x.cue(SWAP, 0, 0, 0).due(k);
        }
        x.cue(SWAP, 0, 0, 0).due(FULL);
        x.cue(SWAP, 0, 0, 0).due(FULL);
        x.count(1).due(30);
        x.play(0, 29).due(30);
        x.play(0, 30).due(BAD);
    }

    private void cuesAreNumberedAsTheyAreWritten() {
        Run x = on("numbered as they are written").oneOfEachKind();
        for (int slot = 0; slot < 9; slot++) {
            x.slot(slot, slot);
            x.cue(SHARE, slot, slot, slot + 1).due(slot);
        }
        for (int k = 8; k >= 0; k--) {
            x.play(k, k).due(1);
            x.held(k + 1).due(k);
        }
    }

    private void castComesFirstInEachAct() {
        Run x = on("TAKEN AS the VIEW: CAST, if it does not GO AS that").oneOfEachKind();
        x.slot(0, RAIL);
        x.give(SWORD);
        x.act(SHOW, 0, RACK, 0).due(CAST);
        x.act(WEAR, 0, RACK, 0).due(CAST);
        x.act(TAKE, 0, RACK, 9).due(CAST);
        x.act(LAY, 0, RACK, 9).due(CAST);
        x.act(SWAP, 0, RACK, 0).due(CAST);
        x.act(SHARE, 0, RACK, 9).due(CAST);
        x.miscue(2).due(6);
    }

    private void showOfNothing() {
        Run x = on("0 SHOW: .. EMPTY: the SLOT holds NOTHING");
        x.prop(COSTUME, 7);
        x.slot(0, 0);
        x.act(SHOW, 0, COSTUME, 0).due(DONE);
        x.slot(0, NONE).due(0);
        x.act(SHOW, 0, COSTUME, 0).due(EMPTY);
        x.points().due(7);
    }

    private void showOfARowOfNothing() {
        Run x = on("POINTS grow by its WORTH: a row of NOTHING is not EMPTY").oneOfEachKind();
        for (int kind = RAIL; kind <= TRUNK_STORE; kind++) {
            x.slot(0, kind);
            x.act(SHOW, 0, kind, 9).due(DONE);
        }
        x.points().due(0);
    }

    private void wearOfNothing() {
        Run x = on("1 WEAR .. EMPTY");
        x.act(WEAR, 4, COSTUME, 0).due(EMPTY);
        x.act(WEAR, 4, VAULT, 0).due(EMPTY);
    }

    private void wearOfARowOfNothing() {
        Run x = on("each COSTUME, MASK, CROWN in it: of none").oneOfEachKind();
        int[] worn = {RAIL, RACK, CASE, WARDROBE, VAULT};
        for (int kind : worn) {
            x.slot(0, kind);
            x.act(WEAR, 0, kind, 0).due(DONE);
        }
        x.prop(RAIL, 0).due(16);
        x.slot(0, 16);
        x.act(WEAR, 0, RAIL, 0).due(DONE);
        x.lay(16, WARDROBE, 1);
        x.slot(0, WARDROBE);
        x.act(WEAR, 0, WARDROBE, 0).due(DONE);
        for (int piece = COSTUME; piece <= CROWN; piece++) {
            x.wear(piece).due(0);
        }
    }

    private void wearHasItsViewsAlone() {
        Run x = on("1 WEAR (VIEWS 4 to 6, 8 to 10, 13, 14)");
        int[] has = {4, 5, 6, 8, 9, 10, 13, 14};
        int[] hasNot = {-1, 0, 1, 2, 3, 7, 11, 12, 15, 16, 17};
        for (int k = 0; k < has.length; k++) {
            x.cue(WEAR, 0, has[k], 0).due(k);
        }
        for (int view : hasNot) {
            x.cue(WEAR, 0, view, 0).due(BAD);
        }
        x.count(1).due(has.length);
    }

    private void wearAsOftenAsItStandsThere() {
        Run x = on("gets 1 WEAR more, as often as it stands there");
        x.prop(RAIL, 5).due(0);
        x.prop(MASK, 1).due(1);
        x.slot(0, 0);
        int wear = 0;
        for (int i = 4; i >= 0; i--) {
            x.lay(1, 0, i);
            x.act(WEAR, 0, RAIL, 0).due(DONE);
            wear += 5 - i;
            x.wear(1).due(wear);
        }
    }

    private void wearInTheRowsInIt() {
        Run x = on("it, or each COSTUME, MASK, CROWN in it, in the rows in it").oneOfEachKind();
        x.lay(COSTUME, RAIL, 0).lay(MASK, RACK, 1).lay(CROWN, CASE, 0).lay(CROWN, CASE, 1);
        x.prop(WARDROBE, 5).due(16);
        x.lay(RAIL, 16, 0).lay(RACK, 16, 1).lay(CASE, 16, 2).lay(CASE, 16, 4);
        x.slot(0, 16);
        x.act(WEAR, 0, WARDROBE, 0).due(DONE);
        x.wear(COSTUME).due(1);
        x.wear(MASK).due(1);
        x.wear(CROWN).due(4);
        x.lay(CASE, VAULT, 1);
        x.slot(0, VAULT);
        x.act(WEAR, 0, VAULT, 0).due(DONE);
        x.wear(CROWN).due(6);
        x.act(WEAR, 0, WARDROBE, 0).due(DONE);
        x.wear(CROWN).due(8);
        x.wear(COSTUME).due(1);
    }

    private void wearIsSeenByNothingElse() {
        Run x = on("it gets 1 WEAR more: nothing else does").oneOfEachKind();
        x.prop(MASK, 50).due(16);
        x.slot(0, MASK);
        x.act(WEAR, 0, COSTUME, 0).due(DONE);
        x.wear(MASK).due(1);
        x.wear(16).due(0);
        x.wear(COSTUME).due(0);
        x.wear(CROWN).due(0);
        x.points().due(0);
        x.held(0).due(MASK);
        x.hand().due(NONE);
    }

    private void takeOfEachPlace() {
        for (int places = 0; places <= 5; places++) {
            Run x = on("2 TAKE .. INDEX: it has no such place, of " + places);
            for (int kind = RAIL; kind <= TRUNK_STORE; kind++) {
                x.prop(kind, places).due(kind - RAIL);
                x.slot(0, kind - RAIL);
                // Written for every place that a cue can have.
                x.strike();
                for (int i = 0; i <= 9; i++) {
                    x.cue(TAKE, 0, kind, i).due(i);
                }
                x.play(0, 9).due(places);
                x.miscue(0).due(INDEX);
                x.miscue(1).due(places);
                x.play(9, 9).due(0);
                x.miscue(0).due(INDEX);
            }
        }
    }

    private void takeLeavesNothingThere() {
        Run x = on("what is at place i of it goes to THE HAND, NOTHING is there then");
        x.prop(CHEST, 5).due(0);
        for (int i = 0; i < 5; i++) {
            x.prop(SWORD, i).due(i + 1);
            x.lay(i + 1, 0, i);
        }
        x.slot(0, 0);
        int[] places = {4, 0, 2};
        for (int i : places) {
            x.act(TAKE, 0, TRUNK, i).due(DONE);
            x.hand().due(i + 1);
            x.at(0, i).due(NONE);
        }
        x.at(0, 1).due(2);
        x.at(0, 3).due(4);
        x.held(0).due(0);
    }

    private void takeOfNothing() {
        Run x = on("2 TAKE: NOTHING at place i goes to THE HAND").oneOfEachKind();
        x.give(SWORD);
        x.slot(0, RAIL);
        x.act(TAKE, 0, RAIL, 1).due(DONE);
        x.hand().due(NONE);
        x.at(RAIL, 1).due(NONE);
    }

    private void takeLosesWhatTheHandHad() {
        Run x = on("what THE HAND had is in no one's").oneOfEachKind();
        x.lay(COSTUME, RAIL, 0);
        x.give(SWORD);
        x.slot(0, RAIL);
        x.act(TAKE, 0, RAIL, 0).due(DONE);
        x.hand().due(COSTUME);
        x.at(RAIL, 0).due(NONE);
        x.held(0).due(RAIL);
        for (int slot = 1; slot <= 9; slot++) {
            x.held(slot).due(NONE);
        }
        // It is a prop still, and may be held again.
        x.count(0).due(16);
        x.worth(SWORD, SWORD).due(70);
        x.slot(1, SWORD).due(NONE);
        x.held(1).due(SWORD);
    }

    private void takeOfTheSameTwice() {
        Run x = on("2 TAKE of what stands at two places").oneOfEachKind();
        x.lay(MASK, RACK, 0).lay(MASK, RACK, 1);
        x.slot(0, RACK);
        x.act(TAKE, 0, RACK, 0).due(DONE);
        x.at(RACK, 0).due(NONE);
        x.at(RACK, 1).due(MASK);
        x.act(TAKE, 0, RAIL, 1).due(DONE);
        x.hand().due(MASK);
        x.at(RACK, 1).due(NONE);
    }

    private void layOfEachPlace() {
        int[] part = {COSTUME, MASK, CROWN, SWORD, SWORD, RAIL, CASE, TRUNK};
        for (int places = 0; places <= 5; places++) {
            Run x = on("3 LAY .. INDEX, of " + places).oneOfEachKind();
            for (int kind = RAIL; kind <= TRUNK_STORE; kind++) {
                int row = kind + 8;
                x.prop(kind, places).due(row);
                x.give(part[kind - RAIL]);
                x.slot(0, row);
                x.act(LAY, 0, kind, places).due(INDEX);
                x.act(LAY, 0, kind, 9).due(INDEX);
                x.hand().due(part[kind - RAIL]);
                if (places > 0) {
                    x.act(LAY, 0, kind, places - 1).due(DONE);
                    x.at(row, places - 1).due(part[kind - RAIL]);
                    x.at(row, 0).due(places == 1 ? part[kind - RAIL] : NONE);
                }
            }
        }
    }

    private void layLeavesTheHandWithNothing() {
        Run x = on("what THE HAND has is laid at place i, THE HAND has NOTHING then").oneOfEachKind();
        x.give(CROWN);
        x.slot(0, CASE);
        x.cue(LAY, 0, TRUNK, 0);
        x.cue(LAY, 0, TRUNK, 1);
        x.play(0, 0).due(1);
        x.hand().due(NONE);
        x.at(CASE, 0).due(CROWN);
        x.at(CASE, 1).due(NONE);
        x.play(1, 1).due(1);
        x.at(CASE, 0).due(CROWN);
        x.at(CASE, 1).due(NONE);
    }

    private void layOverWhatIsThere() {
        Run x = on("3 LAY at a place that holds a PROP").oneOfEachKind();
        x.lay(CROWN, RAIL, 0).lay(MASK, RAIL, 0);
        x.at(RAIL, 0).due(MASK);
        x.hand().due(NONE);
        x.slot(0, RAIL);
        x.act(LAY, 0, RAIL, 0).due(DONE);
        x.at(RAIL, 0).due(NONE);
    }

    private void layInOrder() {
        Run x = on("CAST, too, ..; EMPTY; INDEX; STORE .. In this order").oneOfEachKind();
        x.give(SWORD);
        x.slot(0, CASE);
        x.act(LAY, 0, CHEST, 9).due(CAST);
        x.act(LAY, 0, RAIL, 9).due(CAST);
        x.act(LAY, 1, RAIL, 9).due(CAST);
        x.act(LAY, 1, TRUNK, 9).due(EMPTY);
        x.act(LAY, 1, CHEST, 0).due(EMPTY);
        x.act(LAY, 0, TRUNK, 2).due(INDEX);
        x.act(LAY, 0, TRUNK, 1).due(STORE);
        x.act(LAY, 0, RAIL, 1).due(CAST);
        x.hand().due(SWORD);
        x.slot(0, CHEST);
        x.act(LAY, 0, TRUNK, 1).due(DONE);
    }

    private void layStoreOfEachRow() {
        int[][] parts = {
            {COSTUME, RACK, RAIL}, {CROWN, RACK, RAIL}, {COSTUME, CASE, RAIL}, {MASK, CASE, RAIL},
            {SWORD, CASE, TRUNK}, {CROWN, CHEST, TRUNK}, {RAIL, VAULT, WARDROBE}, {RACK, VAULT, WARDROBE},
            {TRUNK, VAULT, TRUNK_STORE}, {CHEST, VAULT, TRUNK_STORE},
        };
        layEach(on("STORE: it does, but not as what the row is for").oneOfEachKind(), parts, STORE);
    }

    private void layOfWhatTheRowIsFor() {
        int[][] parts = {
            {MASK, RACK, RAIL}, {CROWN, CASE, RAIL}, {CROWN, CASE, TRUNK}, {SWORD, CHEST, TRUNK},
            {CASE, VAULT, WARDROBE}, {CASE, VAULT, TRUNK_STORE},
        };
        layEach(on("3 LAY of what the row is for, TAKEN AS another VIEW").oneOfEachKind(), parts, DONE);
    }

    /** Lays each part in its row by a view: {part, row, view}. */
    private void layEach(Run x, int[][] parts, int want) {
        for (int[] one : parts) {
            x.give(one[0]);
            x.slot(0, one[1]);
            x.act(LAY, 0, one[2], 1).due(want);
            x.at(one[1], 1).due(want == DONE ? one[0] : NONE);
            x.hand().due(want == DONE ? NONE : one[0]);
        }
    }

    private void swapWithNothing() {
        Run x = on("4 SWAP: SLOT and HAND change what they have, NOTHING too").oneOfEachKind();
        x.act(SWAP, 9, PLAN, 9).due(DONE);
        x.hand().due(NONE);
        x.held(9).due(NONE);
        x.slot(9, PLAN);
        x.act(SWAP, 9, PLAN, 0).due(DONE);
        x.hand().due(PLAN);
        x.held(9).due(NONE);
        x.act(SWAP, 0, TRUNK_STORE, 0).due(DONE);
        x.hand().due(NONE);
        x.held(0).due(PLAN);
    }

    private void swapTakesTheSlotAlone() {
        Run x = on("what the SLOT holds is TAKEN AS the VIEW, not THE HAND").oneOfEachKind();
        x.give(SWORD);
        x.slot(0, MASK);
        x.act(SWAP, 0, SWORD, 0).due(CAST);
        x.act(SWAP, 0, COSTUME, 0).due(DONE);
        x.hand().due(MASK);
        x.held(0).due(SWORD);
    }

    private void shareToTheFirstAndTheLastSlot() {
        Run x = on("5 SHARE: SLOT i (0 .. 9) holds it, too").oneOfEachKind();
        x.slot(4, VAULT);
        for (int i = 0; i <= 9; i++) {
            x.act(SHARE, 4, TRUNK_STORE, i).due(DONE);
            x.held(i).due(VAULT);
            x.held(4).due(VAULT);
        }
        x.cue(SHARE, 4, VAULT, -1).due(BAD);
        x.cue(SHARE, 4, VAULT, 10).due(BAD);
    }

    private void shareOfNothing() {
        Run x = on("5 SHARE of NOTHING: SLOT i holds NOTHING, too").oneOfEachKind();
        x.slot(9, SCRIPT);
        x.act(SHARE, 0, SCRIPT, 9).due(DONE);
        x.held(9).due(NONE);
        x.held(0).due(NONE);
    }

    private void shareToItself() {
        Run x = on("5 SHARE to the SLOT itself").oneOfEachKind();
        x.slot(6, SOUNDS);
        x.act(SHARE, 6, SOUNDS, 6).due(DONE);
        x.held(6).due(SOUNDS);
    }

    private void aMiscueDoesNothing() {
        // {act, slot, view, i, why}: slot 0 holds a CASE with a CROWN, slot 1 NOTHING, the hand a SWORD.
        int[][] miscues = {
            {SHOW, 0, RACK, 0, CAST}, {SHOW, 1, CASE, 0, EMPTY},
            {WEAR, 0, COSTUME, 0, CAST}, {WEAR, 1, RAIL, 0, EMPTY},
            {TAKE, 0, CHEST, 0, CAST}, {TAKE, 1, CASE, 0, EMPTY}, {TAKE, 0, CASE, 2, INDEX}, {TAKE, 0, CASE, 9, INDEX},
            {LAY, 0, CHEST, 0, CAST}, {LAY, 0, CASE, 0, CAST}, {LAY, 1, TRUNK, 0, EMPTY},
            {LAY, 0, TRUNK, 2, INDEX}, {LAY, 0, TRUNK, 0, STORE},
            {SWAP, 0, CROWN, 0, CAST}, {SHARE, 0, VAULT, 5, CAST},
        };
        for (int[] cue : miscues) {
            Run x = on("What is not done as a whole (a MISCUE) does nothing").oneOfEachKind();
            x.lay(CROWN, CASE, 0);
            x.give(SWORD);
            x.slot(0, CASE);
            x.slot(5, PLAN);
            x.cue(cue[0], cue[1], cue[2], cue[3]).due(0);
            String before = x.state();
            x.play(0, 0).due(0);
            x.dueState(before);
            x.dueMiscue(cue[4], 0, 1);
        }
    }
}
