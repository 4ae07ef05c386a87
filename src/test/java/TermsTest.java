/** The boundary cases of the document's section "Terms" up to the cues, a test for each sentence. */
public final class TermsTest implements Words {
    /** The views that each kind goes as, as the document lists them. */
    private static final int[][] GOES_AS = {
        {SCRIPT}, {LIGHTS}, {SOUNDS}, {PLAN},
        {COSTUME}, {MASK, COSTUME}, {CROWN, COSTUME, CARRIED}, {SWORD, CARRIED},
        {RAIL}, {RACK, RAIL}, {CASE, RAIL, TRUNK}, {TRUNK}, {CHEST, TRUNK},
        {WARDROBE}, {VAULT, WARDROBE, TRUNK_STORE}, {TRUNK_STORE},
    };

    private final Check check = new Check("TermsTest");

    public static void main(String[] args) {
        TermsTest test = new TermsTest();
        test.kindsAre0To15();
        test.viewsAreTheKindsAnd16();
        test.aPlanHasThreeBytesARow();
        test.aPropGoesAsNothingElse();
        test.nothingGoesAsEachViewInASlot();
        test.nothingGoesAsEachViewInTheHand();
        test.wearIs0AtFirst();
        test.worthOfTheLeastAndTheMostSize();
        test.worthOfNumbersIsSummedInLongs();
        test.worthOfARowWithoutPlaces();
        test.worthOfNothingInARow();
        test.worthOfAFullRowOfTheSame();
        test.worthOfAFullRowOfRows();
        test.worthOfPartsByTheViewOfTheRow();
        test.worthOfRowsByTheViewOfTheRow();
        test.handAndSlotsHoldNothingAtFirst();
        test.slotsAre0To9();
        test.severalMayHoldTheSameOne();
        test.check.end();
    }

    private Run on(String sentence) {
        return new Run(check, sentence);
    }

    private void kindsAre0To15() {
        Run x = on("KINDS of PROPS: 0 SCRIPT .. 15 STORE");
        x.prop(SCRIPT, 1).due(0);
        x.prop(TRUNK_STORE, 1).due(1);
        x.prop(-1, 1).due(BAD);
        x.prop(16, 1).due(BAD);
        x.prop(17, 1).due(BAD);
        x.prop(LOWEST, 1).due(BAD);
        x.prop(HIGHEST, 1).due(BAD);
        x.is(0, SCRIPT).due(1);
        x.is(1, TRUNK_STORE).due(1);
        x.count(0).due(2);
    }

    private void viewsAreTheKindsAnd16() {
        Run x = on("VIEWS are the KINDS and 16 CARRIED");
        x.prop(CROWN, 10);
        for (int view = 0; view <= 16; view++) {
            boolean goes = view == CROWN || view == COSTUME || view == CARRIED;
            x.is(0, view).due(goes ? 1 : 0);
            x.cue(SHOW, 0, view, 0).due(view);
        }
        int[] beyond = {LOWEST, -17, -16, -1, 17, 32 + CROWN, 32 + CARRIED, 256 + CROWN, HIGHEST};
        for (int view : beyond) {
            x.is(0, view).due(BAD);
            x.worth(0, view).due(0);
            x.cue(SHOW, 0, view, 0).due(BAD);
            x.cue(SWAP, 0, view, 0).due(BAD);
            x.cue(SHARE, 0, view, 0).due(BAD);
        }
    }

    private void aPlanHasThreeBytesARow() {
        Run x = on("3 PLAN, rows of three bytes each");
        for (int rows = 0; rows <= 5; rows++) {
            x.prop(PLAN, rows).due(rows);
            for (int i = 0; i < 3 * rows; i++) {
                x.set(rows, i, 1).due(1);
                x.worth(rows, PLAN).due(i + 1);
            }
            x.set(rows, 3 * rows, 1).due(INDEX);
            x.set(rows, -1, 1).due(INDEX);
            x.set(rows, -3, 1).due(INDEX);
            x.worth(rows, PLAN).due(3 * rows);
        }
    }

    private void aPropGoesAsNothingElse() {
        Run x = on("A PROP GOES AS its own KIND; .. as nothing else").oneOfEachKind();
        for (int kind = SCRIPT; kind <= TRUNK_STORE; kind++) {
            for (int view = SCRIPT; view <= CARRIED; view++) {
                x.is(kind, view).due(goesAs(kind, view) ? 1 : 0);
            }
        }
        // A cue must find the same as is() tells.
        for (int kind = SCRIPT; kind <= TRUNK_STORE; kind++) {
            Run y = on("CAST, if it does not GO AS that, kind " + kind).oneOfEachKind();
            y.slot(3, kind);
            for (int view = SCRIPT; view <= CARRIED; view++) {
                int want = goesAs(kind, view) ? DONE : CAST;
                y.act(SHOW, 3, view, 0).due(want);
                y.act(SHARE, 3, view, 3).due(want);
                y.act(SHARE, 3, view, 4).due(want);
                y.slot(4, NONE).due(want == DONE ? kind : NONE);
            }
        }
    }

    private static boolean goesAs(int kind, int view) {
        for (int as : GOES_AS[kind]) {
            if (as == view) {
                return true;
            }
        }
        return false;
    }

    private void nothingGoesAsEachViewInASlot() {
        Run x = on("NOTHING goes as each VIEW, in a SLOT");
        for (int view = SCRIPT; view <= CARRIED; view++) {
            x.act(SHOW, 0, view, 0).due(EMPTY);
            x.act(SWAP, 0, view, 0).due(DONE);
            x.act(SHARE, 0, view, 1).due(DONE);
        }
        int[] worn = {COSTUME, MASK, CROWN, RAIL, RACK, CASE, WARDROBE, VAULT};
        for (int view : worn) {
            x.act(WEAR, 0, view, 0).due(EMPTY);
        }
        for (int view = RAIL; view <= TRUNK_STORE; view++) {
            x.act(TAKE, 0, view, 0).due(EMPTY);
            x.act(LAY, 0, view, 0).due(EMPTY);
        }
    }

    private void nothingGoesAsEachViewInTheHand() {
        Run x = on("NOTHING goes as each VIEW, in THE HAND").oneOfEachKind();
        for (int row = RAIL; row <= TRUNK_STORE; row++) {
            x.slot(0, row);
            for (int view : GOES_AS[row]) {
                x.act(LAY, 0, view, 1).due(DONE);
                x.at(row, 1).due(NONE);
                x.hand().due(NONE);
            }
        }
    }

    private void wearIs0AtFirst() {
        Run x = on("COSTUMES, MASKS, CROWNS have a SIZE and WEAR (0 at first), SWORDS a SIZE");
        int[] sizes = {0, 1, 99, 100};
        int number = 0;
        for (int size : sizes) {
            for (int kind = COSTUME; kind <= SWORD; kind++) {
                x.prop(kind, size).due(number);
                x.wear(number).due(kind == SWORD ? CAST : 0);
                number++;
            }
        }
    }

    private void worthOfTheLeastAndTheMostSize() {
        for (int size = 0; size <= 100; size += 100) {
            Run x = on("4 its SIZE and its WEAR; .. of a SWORD its SIZE twice, SIZE " + size);
            for (int kind = COSTUME; kind <= SWORD; kind++) {
                x.prop(kind, size);
                x.slot(kind, kind - COSTUME);
            }
            x.cue(WEAR, COSTUME, COSTUME, 0);
            x.cue(WEAR, MASK, MASK, 0);
            x.cue(WEAR, CROWN, CROWN, 0);
            for (int wear = 0; wear <= 3; wear++) {
                x.worth(0, COSTUME).due(size + wear);
                x.worth(1, COSTUME).due(size + wear);
                x.worth(1, MASK).due(2 * wear);
                x.worth(2, COSTUME).due(size + wear);
                x.worth(2, MASK).due(0);
                x.worth(2, CROWN).due(3 * size);
                x.worth(2, CARRIED).due(size + 5);
                x.worth(3, SWORD).due(size);
                x.worth(3, CARRIED).due(2 * size);
                x.worth(3, COSTUME).due(0);
                x.play(0, 2).due(3);
            }
        }
    }

    private void worthOfNumbersIsSummedInLongs() {
        Run x = on("0, 1, 2, 3 the sum of its numbers (in longs that wrap)");
        for (int kind = SCRIPT; kind <= PLAN; kind++) {
            x.prop(kind, 5);
        }
        fill(x, 5, HIGHEST, 15, 0x7F);
        dueWorths(x, 5 * 65535L, -5, 5L * HIGHEST, 15 * 127);
        fill(x, 5, LOWEST, 15, 0x80);
        dueWorths(x, 0, 0, 5L * LOWEST, 15 * -128);
        fill(x, 4, -1, 14, -1);
        dueWorths(x, 4 * 65535L, -4, LOWEST - 4L, -14 - 128);
        x.set(LIGHTS, 4, 0x8000);
        x.worth(LIGHTS, LIGHTS).due(-4 - 32768);
    }

    private void fill(Run x, int numbers, int v, int bytes, int b) {
        for (int i = 0; i < numbers; i++) {
            x.set(SCRIPT, i, v).due(1);
            x.set(LIGHTS, i, v).due(1);
            x.set(SOUNDS, i, v).due(1);
        }
        for (int i = 0; i < bytes; i++) {
            x.set(PLAN, i, b).due(1);
        }
    }

    private void dueWorths(Run x, long... want) {
        for (int kind = SCRIPT; kind <= PLAN; kind++) {
            x.worth(kind, kind).due(want[kind]);
        }
    }

    private void worthOfARowWithoutPlaces() {
        Run x = on("the sum of its numbers, .. of what is in it: of no places");
        int number = 0;
        for (int kind = SCRIPT; kind <= TRUNK_STORE; kind++) {
            if (!Run.isPiece(kind)) {
                x.prop(kind, 0).due(number);
                for (int view : GOES_AS[kind]) {
                    x.worth(number, view).due(0);
                    x.slot(0, number);
                    x.act(SHOW, 0, view, 0).due(DONE);
                }
                number++;
            }
        }
        x.points().due(0);
        x.miscue(2).due(0);
    }

    private void worthOfNothingInARow() {
        Run x = on("(NOTHING: 0)").oneOfEachKind();
        for (int row = RAIL; row <= TRUNK_STORE; row++) {
            for (int view : GOES_AS[row]) {
                x.worth(row, view).due(0);
            }
        }
        x.lay(COSTUME, RAIL, 1);
        x.worth(RAIL, RAIL).due(40);
        x.lay(RAIL, WARDROBE, 1);
        x.worth(WARDROBE, WARDROBE).due(40);
        x.lay(RACK, WARDROBE, 0);
        x.worth(WARDROBE, WARDROBE).due(40);
    }

    private void worthOfAFullRowOfTheSame() {
        Run x = on("8 .. 12 the sum of the WORTHS of what is in it, five times the same");
        x.prop(CASE, 5).due(0);
        x.prop(CROWN, 100).due(1);
        fillAndDue(x, RAIL, CASE, TRUNK);
    }

    private void worthOfAFullRowOfRows() {
        Run x = on("13, 14, 15 of the WORTHS of the rows in it, five times the same");
        x.prop(VAULT, 5).due(0);
        x.prop(CASE, 1).due(1);
        x.prop(CROWN, 100).due(2);
        x.lay(2, 1, 0);
        fillAndDue(x, WARDROBE, VAULT, TRUNK_STORE);
    }

    /** Fills row 0 with prop 1, which is a crown of SIZE 100 or has one in it. */
    private void fillAndDue(Run x, int worn, int own, int carried) {
        for (int i = 0; i < 5; i++) {
            x.lay(1, 0, i);
            x.worth(0, worn).due((i + 1) * 100);
            x.worth(0, own).due((i + 1) * 300);
            x.worth(0, carried).due((i + 1) * 105);
        }
    }

    private void worthOfPartsByTheViewOfTheRow() {
        Run x = on("what is in it by 4, 5, 6, 16, 7").oneOfEachKind();
        x.lay(MASK, RACK, 0).lay(CROWN, CASE, 0).lay(SWORD, CHEST, 0);
        x.lay(CROWN, RAIL, 0).lay(MASK, RAIL, 1).lay(CROWN, TRUNK, 0).lay(SWORD, TRUNK, 1);
        x.slot(0, MASK);
        x.slot(1, CROWN);
        x.act(WEAR, 0, MASK, 0).due(DONE);
        x.act(WEAR, 1, CROWN, 0).due(DONE);
        x.worth(RAIL, RAIL).due(61 + 51);
        x.worth(RACK, RAIL).due(51);
        x.worth(RACK, RACK).due(2);
        x.worth(CASE, RAIL).due(61);
        x.worth(CASE, CASE).due(180);
        x.worth(CASE, TRUNK).due(65);
        x.worth(TRUNK, TRUNK).due(65 + 140);
        x.worth(CHEST, TRUNK).due(140);
        x.worth(CHEST, CHEST).due(70);
    }

    private void worthOfRowsByTheViewOfTheRow() {
        Run x = on("the rows in it by 8, 10, 11").oneOfEachKind();
        x.lay(MASK, RACK, 0).lay(CROWN, CASE, 0).lay(SWORD, CHEST, 0);
        x.lay(RACK, WARDROBE, 0).lay(CASE, WARDROBE, 1).lay(CASE, VAULT, 1);
        x.lay(CASE, TRUNK_STORE, 0).lay(CHEST, TRUNK_STORE, 1);
        x.slot(0, MASK);
        x.act(WEAR, 0, MASK, 0).due(DONE);
        x.worth(WARDROBE, WARDROBE).due(51 + 60);
        x.worth(VAULT, WARDROBE).due(60);
        x.worth(VAULT, VAULT).due(180);
        x.worth(VAULT, TRUNK_STORE).due(65);
        x.worth(TRUNK_STORE, TRUNK_STORE).due(65 + 140);
        x.worth(WARDROBE, RAIL).due(0);
        x.worth(VAULT, CASE).due(0);
    }

    private void handAndSlotsHoldNothingAtFirst() {
        Run x = on("THE HAND and SLOTS 0 .. 9 hold a PROP or NOTHING (at first)");
        x.hand().due(NONE);
        for (int slot = 0; slot <= 9; slot++) {
            x.held(slot).due(NONE);
        }
        // A prop that is made stands nowhere yet.
        x.prop(COSTUME, 1).due(0);
        x.hand().due(NONE);
        for (int slot = 0; slot <= 9; slot++) {
            x.held(slot).due(NONE);
        }
    }

    private void slotsAre0To9() {
        Run x = on("SLOTS 0 .. 9");
        x.prop(COSTUME, 1).due(0);
        int[] beyond = {LOWEST, -10, -1, 10, 11, 256, HIGHEST};
        for (int slot : beyond) {
            x.held(slot).due(BAD);
            x.slot(slot, 0).due(BAD);
            x.slot(slot, NONE).due(BAD);
            x.cue(SHOW, slot, COSTUME, 0).due(BAD);
            x.cue(SHARE, slot, COSTUME, 0).due(BAD);
            x.cue(SHARE, 0, COSTUME, slot).due(BAD);
        }
        for (int slot = 0; slot <= 9; slot++) {
            x.slot(slot, 0).due(NONE);
            x.held(slot).due(0);
            x.cue(SHOW, slot, COSTUME, 0).due(slot);
        }
        x.play(0, 9).due(10);
        x.points().due(10);
    }

    private void severalMayHoldTheSameOne() {
        Run x = on("several may hold the same one").oneOfEachKind();
        x.lay(CROWN, RAIL, 0).lay(CROWN, CASE, 0).lay(CROWN, TRUNK, 0);
        x.give(CROWN);
        for (int slot = 0; slot <= 9; slot++) {
            x.slot(slot, CROWN).due(NONE);
        }
        x.act(WEAR, 9, CROWN, 0).due(DONE);
        x.wear(CROWN).due(1);
        x.hand().due(CROWN);
        x.at(RAIL, 0).due(CROWN);
        x.at(CASE, 0).due(CROWN);
        x.at(TRUNK, 0).due(CROWN);
        x.slot(5, NONE).due(CROWN);
        for (int slot = 0; slot <= 9; slot++) {
            x.held(slot).due(slot == 5 ? NONE : CROWN);
        }
        x.worth(RAIL, RAIL).due(61);
        x.worth(CASE, RAIL).due(61);
    }
}
