/** What it is to play a cue: each act, its miscues and their order. */
public final class ActsTest implements Words {
    /** By what the parts of a row are seen, for views 8 .. 15. */
    private static final int[] PART_VIEWS = {4, 5, 6, 16, 7, 8, 10, 11};

    private final Check check = new Check("ActsTest");

    public static void main(String[] args) {
        ActsTest test = new ActsTest();
        test.everyActTakesWhatTheSlotHoldsAsItsView();
        test.nothingGoesAsEachView();
        test.showGrowsPoints();
        test.wearOfPieces();
        test.wearAsOftenAsItStandsThere();
        test.wearInTheRowsOfARow();
        test.take();
        test.takeLosesWhatTheHandHad();
        test.layOfEachKindInEachRowByEachView();
        test.layOrder();
        test.layNothing();
        test.swap();
        test.share();
        test.rowsAreSharedNotCopied();
        test.check.end();
    }

    /** Writes one cue and plays it: 0, or the reason of the miscue. */
    private int playOne(PropStore x, int act, int slot, int view, int i) {
        x.strike();
        check.due("cue(" + act + ", " + slot + ", " + view + ", " + i + ")", x.cue(act, slot, view, i), 0);
        int done = x.play(0, 0);
        int why = x.miscue(0);
        check.due("play(0, 0)", done, why == 0 ? 1 : 0);
        return why;
    }

    /** Gives the hand the prop of a kind, whose number is the same; slot 9 has what it had. */
    private void give(PropStore x, int kind) {
        x.slot(9, kind);
        check.due("give " + kind, playOne(x, SWAP, 9, kind, 0), 0);
    }

    private void lay(PropStore x, int part, int row, int i) {
        give(x, part);
        x.slot(8, row);
        check.due("lay " + part + " in " + row, playOne(x, LAY, 8, row, i), 0);
    }

    private void everyActTakesWhatTheSlotHoldsAsItsView() {
        PropStore x = Stores.oneOfEachKind();
        x.slot(0, 8);
        check.due("SHOW a rail as 9", playOne(x, SHOW, 0, 9, 0), CAST);
        check.due("WEAR a rail as 4", playOne(x, WEAR, 0, 4, 0), CAST);
        check.due("TAKE from a rail as 11", playOne(x, TAKE, 0, 11, 0), CAST);
        check.due("LAY on a rail as 9", playOne(x, LAY, 0, 9, 0), CAST);
        check.due("SWAP a rail as 13", playOne(x, SWAP, 0, 13, 0), CAST);
        check.due("SHARE a rail as 16", playOne(x, SHARE, 0, 16, 5), CAST);
        check.due("CAST before INDEX", playOne(x, TAKE, 0, 9, 9), CAST);
        check.due("held(0)", x.held(0), 8);
        check.due("held(5)", x.held(5), NONE);
        check.due("hand()", x.hand(), NONE);
        check.due("points()", x.points(), 0);
        check.due("miscue(2)", x.miscue(2), 7);
    }

    private void nothingGoesAsEachView() {
        PropStore x = new PropStore();
        for (int view = 0; view <= 16; view++) {
            check.due("SHOW of NOTHING as " + view, playOne(x, SHOW, 0, view, 0), EMPTY);
            check.due("SWAP of NOTHING as " + view, playOne(x, SWAP, 0, view, 0), 0);
            check.due("SHARE of NOTHING as " + view, playOne(x, SHARE, 0, view, 1), 0);
        }
        int[] worn = {4, 5, 6, 8, 9, 10, 13, 14};
        for (int view : worn) {
            check.due("WEAR of NOTHING as " + view, playOne(x, WEAR, 0, view, 0), EMPTY);
        }
        for (int view = 8; view <= 15; view++) {
            check.due("TAKE from NOTHING as " + view, playOne(x, TAKE, 0, view, 9), EMPTY);
            check.due("LAY on NOTHING as " + view, playOne(x, LAY, 0, view, 9), EMPTY);
        }
    }

    private void showGrowsPoints() {
        PropStore x = Stores.oneOfEachKind();
        lay(x, 6, 10, 0);
        lay(x, 6, 10, 1);
        lay(x, 10, 14, 0);
        x.slot(0, 14);
        check.due("SHOW a vault as 13", playOne(x, SHOW, 0, 13, 0), 0);
        check.due("points()", x.points(), 120);
        check.due("SHOW a vault as 14", playOne(x, SHOW, 0, 14, 0), 0);
        check.due("points()", x.points(), 120 + 360);
        check.due("SHOW a vault as 15", playOne(x, SHOW, 0, 15, 0), 0);
        check.due("points()", x.points(), 120 + 360 + 130);
        check.due("held(0)", x.held(0), 14);
        check.due("hand()", x.hand(), NONE);
    }

    private void wearOfPieces() {
        PropStore x = Stores.oneOfEachKind();
        int[][] worn = {{4, 4}, {5, 4}, {5, 5}, {6, 4}, {6, 6}};
        int[] wear = new int[16];
        for (int[] pair : worn) {
            x.slot(0, pair[0]);
            check.due("WEAR " + pair[0] + " as " + pair[1], playOne(x, WEAR, 0, pair[1], 0), 0);
            wear[pair[0]]++;
            check.due("wear(" + pair[0] + ")", x.wear(pair[0]), wear[pair[0]]);
        }
        x.slot(0, 5);
        check.due("WEAR a mask as a crown", playOne(x, WEAR, 0, 6, 0), CAST);
        x.slot(0, 7);
        check.due("WEAR a sword", playOne(x, WEAR, 0, 4, 0), CAST);
        check.due("wear(4)", x.wear(4), 1);
        check.due("wear(5)", x.wear(5), 2);
        check.due("wear(6)", x.wear(6), 2);
    }

    private void wearAsOftenAsItStandsThere() {
        PropStore x = Stores.oneOfEachKind();
        lay(x, 6, 8, 0);
        lay(x, 6, 8, 1);
        x.slot(0, 8);
        check.due("WEAR a rail", playOne(x, WEAR, 0, 8, 0), 0);
        check.due("wear(6)", x.wear(6), 2);
        lay(x, 4, 8, 0);
        check.due("WEAR a rail again", playOne(x, WEAR, 0, 8, 0), 0);
        check.due("wear(6) again", x.wear(6), 3);
        check.due("wear(4)", x.wear(4), 1);
        x.slot(0, 9);
        check.due("WEAR a rack with NOTHING", playOne(x, WEAR, 0, 9, 0), 0);
    }

    private void wearInTheRowsOfARow() {
        PropStore x = Stores.oneOfEachKind();
        lay(x, 4, 8, 0);
        lay(x, 6, 8, 1);
        lay(x, 6, 10, 1);
        lay(x, 8, 13, 0);
        lay(x, 8, 13, 1);
        x.slot(0, 13);
        check.due("WEAR a wardrobe", playOne(x, WEAR, 0, 13, 0), 0);
        check.due("wear(4)", x.wear(4), 2);
        check.due("wear(6)", x.wear(6), 2);
        lay(x, 10, 13, 1);
        check.due("WEAR another wardrobe", playOne(x, WEAR, 0, 13, 0), 0);
        check.due("wear(4)", x.wear(4), 3);
        check.due("wear(6)", x.wear(6), 4);
        lay(x, 10, 14, 0);
        x.slot(0, 14);
        check.due("WEAR a vault as 13", playOne(x, WEAR, 0, 13, 0), 0);
        check.due("wear(6)", x.wear(6), 5);
        check.due("WEAR a vault as 14", playOne(x, WEAR, 0, 14, 0), 0);
        check.due("wear(6)", x.wear(6), 6);
        x.slot(0, 10);
        check.due("WEAR a case as 8", playOne(x, WEAR, 0, 8, 0), 0);
        check.due("WEAR a case as 10", playOne(x, WEAR, 0, 10, 0), 0);
        check.due("wear(6)", x.wear(6), 8);
    }

    private void take() {
        PropStore x = Stores.oneOfEachKind();
        lay(x, 6, 10, 1);
        x.slot(0, 10);
        check.due("TAKE at 2 of 2", playOne(x, TAKE, 0, 10, 2), INDEX);
        check.due("TAKE at 9 of 2", playOne(x, TAKE, 0, 8, 9), INDEX);
        check.due("at(10, 1)", x.at(10, 1), 6);
        check.due("TAKE from a case as a trunk", playOne(x, TAKE, 0, 11, 1), 0);
        check.due("at(10, 1)", x.at(10, 1), NONE);
        check.due("hand()", x.hand(), 6);
        check.due("held(0)", x.held(0), 10);
        x.prop(8, 0);
        x.slot(0, 16);
        check.due("TAKE from a row of no place", playOne(x, TAKE, 0, 8, 0), INDEX);
        check.due("hand() after an INDEX", x.hand(), 6);
    }

    private void takeLosesWhatTheHandHad() {
        PropStore x = Stores.oneOfEachKind();
        lay(x, 4, 8, 0);
        give(x, 7);
        x.slot(0, 8);
        x.slot(9, NONE);
        check.due("TAKE with a full hand", playOne(x, TAKE, 0, 8, 0), 0);
        check.due("hand()", x.hand(), 4);
        for (int slot = 0; slot < 10; slot++) {
            check.that("the sword is still in slot " + slot, x.held(slot) != 7);
        }
        check.due("the sword is a prop still", x.is(7, 7), 1);
        check.due("TAKE of NOTHING", playOne(x, TAKE, 0, 8, 0), 0);
        check.due("hand() after a TAKE of NOTHING", x.hand(), NONE);
    }

    private void layOfEachKindInEachRowByEachView() {
        for (int row = 8; row <= 15; row++) {
            for (int view = 8; view <= 15; view++) {
                PropStore x = Stores.oneOfEachKind();
                for (int part = 0; part < 16; part++) {
                    layOne(x, part, row, view);
                }
            }
        }
    }

    private void layOne(PropStore x, int part, int row, int view) {
        String call = "LAY " + part + " in " + row + " as " + view;
        int before = x.at(row, 1);
        give(x, part);
        x.slot(8, row);
        int want = 0;
        if (x.is(row, view) == 0 || x.is(part, PART_VIEWS[view - 8]) == 0) {
            want = CAST;
        } else if (x.is(part, PART_VIEWS[row - 8]) == 0) {
            want = STORE;
        }
        check.due(call, playOne(x, LAY, 8, view, 1), want);
        check.due(call + ": at", x.at(row, 1), want == 0 ? part : before);
        check.due(call + ": hand", x.hand(), want == 0 ? NONE : part);
        check.due(call + ": at 0", x.at(row, 0), NONE);
        check.due(call + ": held", x.held(8), row);
    }

    private void layOrder() {
        PropStore x = Stores.oneOfEachKind();
        give(x, 7);
        check.due("CAST of the hand before EMPTY", playOne(x, LAY, 0, 8, 9), CAST);
        check.due("EMPTY before INDEX", playOne(x, LAY, 0, 11, 9), EMPTY);
        x.slot(0, 8);
        check.due("CAST of the hand before INDEX", playOne(x, LAY, 0, 8, 9), CAST);
        x.slot(0, 10);
        check.due("CAST of the slot first", playOne(x, LAY, 0, 12, 9), CAST);
        check.due("INDEX before STORE", playOne(x, LAY, 0, 11, 2), INDEX);
        check.due("STORE, a sword in a case as a trunk", playOne(x, LAY, 0, 11, 1), STORE);
        give(x, 4);
        check.due("STORE, a costume in a case as a rail", playOne(x, LAY, 0, 8, 0), STORE);
        give(x, 8);
        x.slot(0, 14);
        check.due("STORE, a rail in a vault as a wardrobe", playOne(x, LAY, 0, 13, 0), STORE);
        check.due("miscue(2)", x.miscue(2), 8);
        check.due("hand() has it still", x.hand(), 8);
        check.due("at(14, 0)", x.at(14, 0), NONE);
    }

    private void layNothing() {
        PropStore x = Stores.oneOfEachKind();
        lay(x, 6, 10, 0);
        x.slot(0, 10);
        check.due("LAY of NOTHING beyond", playOne(x, LAY, 0, 8, 2), INDEX);
        check.due("at(10, 0)", x.at(10, 0), 6);
        check.due("LAY of NOTHING", playOne(x, LAY, 0, 8, 0), 0);
        check.due("at(10, 0)", x.at(10, 0), NONE);
        check.due("hand()", x.hand(), NONE);
    }

    private void swap() {
        PropStore x = Stores.oneOfEachKind();
        x.slot(0, 6);
        x.slot(1, 0);
        check.due("SWAP a crown as carried", playOne(x, SWAP, 0, 16, 9), 0);
        check.due("held(0)", x.held(0), NONE);
        check.due("hand()", x.hand(), 6);
        check.due("SWAP looks at the slot, not the hand", playOne(x, SWAP, 1, 0, 0), 0);
        check.due("held(1)", x.held(1), 6);
        check.due("hand()", x.hand(), 0);
        check.due("SWAP of what does not go as the view", playOne(x, SWAP, 1, 5, 0), CAST);
        check.due("held(1)", x.held(1), 6);
    }

    private void share() {
        PropStore x = Stores.oneOfEachKind();
        x.slot(0, 12);
        x.slot(9, 3);
        check.due("SHARE", playOne(x, SHARE, 0, 11, 9), 0);
        check.due("held(9)", x.held(9), 12);
        check.due("held(0)", x.held(0), 12);
        check.due("SHARE with itself", playOne(x, SHARE, 0, 12, 0), 0);
        check.due("held(0)", x.held(0), 12);
        check.due("SHARE of NOTHING", playOne(x, SHARE, 5, 3, 0), 0);
        check.due("held(0)", x.held(0), NONE);
        check.due("hand()", x.hand(), NONE);
    }

    private void rowsAreSharedNotCopied() {
        PropStore x = Stores.oneOfEachKind();
        lay(x, 8, 13, 0);
        lay(x, 4, 8, 1);
        check.due("the wardrobe sees the rail's costume", x.worth(13, 13), 40);
        x.slot(0, 4);
        playOne(x, WEAR, 0, 4, 0);
        check.due("and its wear", x.worth(13, 13), 41);
        x.slot(1, 8);
        playOne(x, TAKE, 1, 8, 1);
        check.due("and that it is taken", x.worth(13, 13), 0);
    }
}
