/** Each promise of the document: ordinary inputs, the edges that it names, wrong inputs. */
public final class PromisesTest implements Words {
    private static final int[] FAR = {Integer.MIN_VALUE, -1000, -2, 1000, Integer.MAX_VALUE};

    /** The views that each kind goes as, as the document lists them. */
    private static final int[][] GOES_AS = {
        {0}, {1}, {2}, {3}, {4}, {5, 4}, {6, 4, 16}, {7, 16}, {8}, {9, 8}, {10, 8, 11}, {11}, {12, 11},
        {13}, {14, 13, 15}, {15},
    };

    private final Check check = new Check("PromisesTest");

    public static void main(String[] args) {
        PromisesTest test = new PromisesTest();
        test.promise1NewObject();
        test.promise2Prop();
        test.promise2PropRefusals();
        test.promise3Set();
        test.promise3SetRefusals();
        test.promise4Slot();
        test.promise5Held();
        test.promise6Hand();
        test.promise7Cue();
        test.promise7CueViews();
        test.promise7CueFull();
        test.promise8Strike();
        test.promise9Play();
        test.promise10Miscue();
        test.promise11Points();
        test.promise12Is();
        test.promise13WorthOfNumbers();
        test.promise13WorthOfPieces();
        test.promise13WorthOfRows();
        test.promise14Wear();
        test.promise15At();
        test.promise16Count();
        test.check.end();
    }

    /** Lays a part in a row by the row's own kind; slots 8 and 9 and the cues are used for it. */
    private static int lay(PropStore x, int part, int row, int kind, int i) {
        x.strike();
        x.slot(8, NONE);
        x.cue(SWAP, 8, 0, 0);
        x.play(0, 0);
        x.strike();
        x.slot(8, part);
        x.slot(9, row);
        for (int view = 0; view <= 16; view++) {
            if (x.is(part, view) == 1) {
                x.cue(SWAP, 8, view, 0);
                break;
            }
        }
        x.cue(LAY, 9, kind, i);
        int done = x.play(0, 1);
        x.strike();
        return done;
    }

    private void promise1NewObject() {
        PropStore x = new PropStore();
        check.due("new: count(0)", x.count(0), 0);
        check.due("new: count(1)", x.count(1), 0);
        check.due("new: points()", x.points(), 0);
        check.due("new: hand()", x.hand(), NONE);
        for (int slot = 0; slot < 10; slot++) {
            check.due("new: held(" + slot + ")", x.held(slot), NONE);
        }
        check.due("new: miscue(0)", x.miscue(0), 0);
        check.due("new: miscue(1)", x.miscue(1), NONE);
        check.due("new: miscue(2)", x.miscue(2), 0);
        check.due("new: play(0, 0)", x.play(0, 0), BAD);
        check.due("new: strike()", x.strike(), 0);
        PropStore other = new PropStore();
        x.prop(4, 1);
        x.cue(SHOW, 0, 4, 0);
        check.due("other: count(0)", other.count(0), 0);
        check.due("other: count(1)", other.count(1), 0);
    }

    private void promise2Prop() {
        PropStore x = new PropStore();
        for (int kind = 0; kind < 16; kind++) {
            boolean piece = kind >= 4 && kind <= 7;
            check.due("prop(kind " + kind + ", least)", x.prop(kind, 0), 2 * kind);
            check.due("prop(kind " + kind + ", most)", x.prop(kind, piece ? 100 : 5), 2 * kind + 1);
        }
        for (int kind = 0; kind < 4; kind++) {
            int numbers = kind == 3 ? 15 : 5;
            check.due("worth at first, kind " + kind, x.worth(2 * kind + 1, kind), 0);
            check.due("set(last), kind " + kind, x.set(2 * kind + 1, numbers - 1, 1), 1);
            check.due("set(beyond), kind " + kind, x.set(2 * kind + 1, numbers, 1), INDEX);
            check.due("set() of no place, kind " + kind, x.set(2 * kind, 0, 1), INDEX);
        }
        for (int kind = 8; kind < 16; kind++) {
            for (int i = 0; i < 5; i++) {
                check.due("at(" + i + "), kind " + kind, x.at(2 * kind + 1, i), NONE);
            }
            check.due("at(5), kind " + kind, x.at(2 * kind + 1, 5), INDEX);
            check.due("at() of no place, kind " + kind, x.at(2 * kind, 0), INDEX);
        }
        check.due("size 0", x.worth(8, 4), 0);
        check.due("size 100", x.worth(9, 4), 100);
        check.due("wear at first", x.wear(9), 0);
    }

    private void promise2PropRefusals() {
        PropStore x = new PropStore();
        for (int kind = 0; kind < 16; kind++) {
            boolean piece = kind >= 4 && kind <= 7;
            check.due("prop(" + kind + ", -1)", x.prop(kind, -1), BAD);
            check.due("prop(" + kind + ", too many)", x.prop(kind, piece ? 101 : 6), BAD);
            for (int far : FAR) {
                check.due("prop(" + kind + ", " + far + ")", x.prop(kind, far), BAD);
            }
        }
        for (int far : FAR) {
            check.due("prop(" + far + ", 1)", x.prop(far, 1), BAD);
        }
        check.due("prop(-1, 0)", x.prop(-1, 0), BAD);
        check.due("prop(16, 0)", x.prop(16, 0), BAD);
        check.due("count after BAD", x.count(0), 0);
        for (int k = 0; k < 50; k++) {
            check.due("prop " + k, x.prop(k % 16, 3), k);
        }
        check.due("the 51st", x.prop(4, 1), FULL);
        check.due("BAD before FULL, kind", x.prop(16, 1), BAD);
        check.due("BAD before FULL, n", x.prop(8, 6), BAD);
        check.due("count when full", x.count(0), 50);
    }

    private void promise3Set() {
        PropStore x = new PropStore();
        for (int kind = 0; kind < 4; kind++) {
            x.prop(kind, 2);
        }
        int[] values = {0, 1, -1, 127, 128, 255, 256, 300, -129, 32767, 32768, 65535, 65536, -32769,
            Integer.MAX_VALUE, Integer.MIN_VALUE};
        for (int v : values) {
            for (int kind = 0; kind < 4; kind++) {
                check.due("set(" + kind + ", 1, " + v + ")", x.set(kind, 1, v), 1);
            }
            check.due("chars of " + v, x.worth(0, 0), v & 0xFFFF);
            check.due("shorts of " + v, x.worth(1, 1), (short) v);
            check.due("longs of " + v, x.worth(2, 2), v);
            check.due("bytes of " + v, x.worth(3, 3), (byte) v);
        }
        PropStore y = new PropStore();
        y.prop(3, 2);
        for (int i = 0; i < 6; i++) {
            check.due("set(0, " + i + ", ..)", y.set(0, i, 1 << i), 1);
        }
        check.due("each number has a place of its own", y.worth(0, 3), 63);
        y.set(0, 3, 0);
        check.due("a number is written over", y.worth(0, 3), 55);
    }

    private void promise3SetRefusals() {
        PropStore x = Stores.oneOfEachKind();
        for (int kind = 0; kind < 4; kind++) {
            int numbers = kind == 3 ? 6 : 2;
            check.due("set(" + kind + ", -1)", x.set(kind, -1, 7), INDEX);
            check.due("set(" + kind + ", beyond)", x.set(kind, numbers, 7), INDEX);
            for (int far : FAR) {
                check.due("set(" + kind + ", " + far + ")", x.set(kind, far, 7), INDEX);
            }
            check.due("refusals of set change nothing", x.worth(kind, kind), 0);
        }
        for (int prop = 4; prop < 16; prop++) {
            check.due("set(" + prop + ", 0)", x.set(prop, 0, 7), CAST);
            check.due("CAST before INDEX, " + prop, x.set(prop, -1, 7), CAST);
        }
        check.due("set(16, ..)", x.set(16, 0, 7), BAD);
        check.due("set(-1, ..)", x.set(-1, 0, 7), BAD);
        check.due("BAD before INDEX", x.set(50, -1, 7), BAD);
        for (int far : FAR) {
            check.due("set(" + far + ", ..)", x.set(far, 0, 7), BAD);
        }
    }

    private void promise4Slot() {
        PropStore x = Stores.oneOfEachKind();
        for (int slot = 0; slot < 10; slot++) {
            check.due("slot(" + slot + ", " + (slot + 3) + ")", x.slot(slot, slot + 3), NONE);
        }
        for (int slot = 0; slot < 10; slot++) {
            check.due("slot(" + slot + ", 15)", x.slot(slot, 15), slot + 3);
            check.due("held(" + slot + ")", x.held(slot), 15);
        }
        check.due("slot(4, NONE)", x.slot(4, NONE), 15);
        check.due("slot(4, NONE) again", x.slot(4, NONE), NONE);
        check.due("held(4)", x.held(4), NONE);
        check.due("held(5)", x.held(5), 15);
        check.due("slot(-1, 0)", x.slot(-1, 0), BAD);
        check.due("slot(10, 0)", x.slot(10, 0), BAD);
        check.due("slot(10, NONE)", x.slot(10, NONE), BAD);
        check.due("slot(0, 16)", x.slot(0, 16), BAD);
        check.due("slot(0, -2)", x.slot(0, -2), BAD);
        for (int far : FAR) {
            check.due("slot(" + far + ", 0)", x.slot(far, 0), BAD);
            check.due("slot(0, " + far + ")", x.slot(0, far), BAD);
        }
        check.due("refusals of slot change nothing", x.held(0), 15);
    }

    private void promise5Held() {
        PropStore x = Stores.oneOfEachKind();
        x.slot(0, 3);
        x.slot(9, 3);
        check.due("held(0)", x.held(0), 3);
        check.due("held(9)", x.held(9), 3);
        check.due("held(1)", x.held(1), NONE);
        check.due("held(-1)", x.held(-1), BAD);
        check.due("held(10)", x.held(10), BAD);
        for (int far : FAR) {
            check.due("held(" + far + ")", x.held(far), BAD);
        }
    }

    private void promise6Hand() {
        PropStore x = Stores.oneOfEachKind();
        x.slot(2, 7);
        x.cue(SWAP, 2, 7, 0);
        x.cue(SWAP, 2, 7, 0);
        check.due("hand()", x.hand(), NONE);
        x.play(0, 0);
        check.due("hand() after a SWAP", x.hand(), 7);
        check.due("held(2) after a SWAP", x.held(2), NONE);
        x.strike();
        check.due("hand() after strike()", x.hand(), 7);
        x.cue(SWAP, 2, 3, 0);
        x.play(0, 0);
        check.due("hand() after a SWAP back", x.hand(), NONE);
        check.due("held(2) after a SWAP back", x.held(2), 7);
    }

    private void promise7Cue() {
        PropStore x = new PropStore();
        check.due("cue(0, 0, 0, 0)", x.cue(0, 0, 0, 0), 0);
        check.due("cue(5, 9, 16, 9)", x.cue(5, 9, 16, 9), 1);
        check.due("cue(-1, 0, 8, 0)", x.cue(-1, 0, 8, 0), BAD);
        check.due("cue(6, 0, 8, 0)", x.cue(6, 0, 8, 0), BAD);
        for (int act = 0; act < 6; act++) {
            check.due("cue(" + act + ", -1, 8, 0)", x.cue(act, -1, 8, 0), BAD);
            check.due("cue(" + act + ", 10, 8, 0)", x.cue(act, 10, 8, 0), BAD);
            check.due("cue(" + act + ", 0, -1, 0)", x.cue(act, 0, -1, 0), BAD);
            check.due("cue(" + act + ", 0, 17, 0)", x.cue(act, 0, 17, 0), BAD);
            check.due("cue(" + act + ", 0, 8, -1)", x.cue(act, 0, 8, -1), BAD);
            check.due("cue(" + act + ", 0, 8, 10)", x.cue(act, 0, 8, 10), BAD);
            for (int far : FAR) {
                check.due("cue(" + act + ", " + far + ", 8, 0)", x.cue(act, far, 8, 0), BAD);
                check.due("cue(" + act + ", 0, " + far + ", 0)", x.cue(act, 0, far, 0), BAD);
                check.due("cue(" + act + ", 0, 8, " + far + ")", x.cue(act, 0, 8, far), BAD);
            }
        }
        for (int far : FAR) {
            check.due("cue(" + far + ", 0, 8, 0)", x.cue(far, 0, 8, 0), BAD);
        }
        // Bits beyond the views must not be taken for views by a shift that wraps.
        check.due("cue(0, 0, 32, 0)", x.cue(0, 0, 32, 0), BAD);
        check.due("cue(2, 0, 40, 0)", x.cue(2, 0, 40, 0), BAD);
        check.due("count(1)", x.count(1), 2);
    }

    private void promise7CueViews() {
        String[] views = {
            "11111111111111111", "00001110111001100", "00000000111111110", "00000000111111110",
            "11111111111111111", "11111111111111111",
        };
        PropStore x = new PropStore();
        for (int act = 0; act < 6; act++) {
            for (int view = 0; view <= 16; view++) {
                boolean has = views[act].charAt(view) == '1';
                check.due("cue(" + act + ", 3, " + view + ", 4)", x.cue(act, 3, view, 4), has ? 0 : BAD);
                check.due("strike()", x.strike(), has ? 1 : 0);
            }
        }
    }

    private void promise7CueFull() {
        PropStore x = new PropStore();
        for (int k = 0; k < 30; k++) {
            check.due("cue " + k, x.cue(SWAP, k % 10, k % 17, k % 10), k);
        }
        check.due("the 31st", x.cue(SWAP, 0, 0, 0), FULL);
        check.due("BAD before FULL", x.cue(WEAR, 0, 7, 0), BAD);
        check.due("count(1) when full", x.count(1), 30);
        check.due("play of all", x.play(0, 29), 30);
        check.due("strike() when full", x.strike(), 30);
        check.due("cue after strike()", x.cue(SWAP, 0, 0, 0), 0);
    }

    private void promise8Strike() {
        PropStore x = Stores.oneOfEachKind();
        x.slot(0, 4);
        check.due("strike() of none", x.strike(), 0);
        x.cue(SHOW, 0, 4, 0);
        x.cue(SHOW, 0, 5, 0);
        x.play(0, 1);
        check.due("strike()", x.strike(), 2);
        check.due("strike() again", x.strike(), 0);
        check.due("count(1)", x.count(1), 0);
        check.due("play of what was struck", x.play(0, 0), BAD);
        check.due("miscue(0) stays", x.miscue(0), CAST);
        check.due("miscue(1) stays", x.miscue(1), 1);
        check.due("points() stay", x.points(), 40);
        check.due("held(0) stays", x.held(0), 4);
        check.due("the first cue's number", x.cue(SHOW, 0, 4, 0), 0);
        check.due("the old second cue is gone", x.play(0, 1), BAD);
    }

    private void promise9Play() {
        PropStore x = Stores.oneOfEachKind();
        x.slot(0, 4);
        for (int slot = 0; slot < 4; slot++) {
            x.cue(SHARE, slot, 4, slot + 1);
        }
        check.due("play(0, 0)", x.play(0, 0), 1);
        check.due("held(1)", x.held(1), 4);
        check.due("held(2)", x.held(2), NONE);
        check.due("play(1, 3)", x.play(1, 3), 3);
        check.due("held(4)", x.held(4), 4);
        check.due("play(-1, 0)", x.play(-1, 0), BAD);
        check.due("play(0, 4)", x.play(0, 4), BAD);
        check.due("play(4, 4)", x.play(4, 4), BAD);
        check.due("play(2, 1)", x.play(2, 1), BAD);
        check.due("play(0, -1)", x.play(0, -1), BAD);
        for (int far : FAR) {
            check.due("play(0, " + far + ")", x.play(0, far), BAD);
            check.due("play(" + far + ", 0)", x.play(far, 0), BAD);
            check.due("play(" + far + ", " + far + ")", x.play(far, far), BAD);
        }
        x.slot(2, 5);
        x.cue(SHOW, 2, 6, 0);
        x.cue(SHARE, 0, 4, 7);
        check.due("a play ends at a MISCUE", x.play(3, 5), 1);
        check.due("what is behind is not played", x.held(7), NONE);
        check.due("play at a MISCUE at once", x.play(4, 5), 0);
        check.due("play behind it", x.play(5, 5), 1);
        check.due("held(7)", x.held(7), 4);
    }

    private void promise10Miscue() {
        PropStore x = Stores.oneOfEachKind();
        x.slot(0, 4);
        x.cue(SHOW, 0, 4, 0);
        x.cue(SHOW, 0, 5, 0);
        x.cue(SHOW, 1, 5, 0);
        dueMiscue(x, "before a play", 0, NONE, 0);
        x.play(0, 0);
        dueMiscue(x, "all done", 0, NONE, 0);
        x.play(0, 2);
        dueMiscue(x, "CAST", CAST, 1, 1);
        check.due("play(0, 3)", x.play(0, 3), BAD);
        dueMiscue(x, "a BAD play leaves it", CAST, 1, 1);
        x.play(2, 2);
        dueMiscue(x, "EMPTY", EMPTY, 2, 2);
        x.play(0, 0);
        dueMiscue(x, "done again", 0, NONE, 2);
        check.due("miscue(3)", x.miscue(3), BAD);
        check.due("miscue(-1)", x.miscue(-1), BAD);
        for (int far : FAR) {
            check.due("miscue(" + far + ")", x.miscue(far), BAD);
        }
    }

    private void dueMiscue(PropStore x, String when, int why, int where, int often) {
        check.due(when + ": miscue(0)", x.miscue(0), why);
        check.due(when + ": miscue(1)", x.miscue(1), where);
        check.due(when + ": miscue(2)", x.miscue(2), often);
    }

    private void promise11Points() {
        PropStore x = Stores.oneOfEachKind();
        x.set(2, 0, -5);
        x.set(2, 1, Integer.MIN_VALUE);
        x.slot(0, 2);
        x.slot(1, 6);
        x.cue(SHOW, 0, 2, 0);
        x.cue(SHOW, 1, 4, 0);
        x.cue(SHOW, 1, 6, 0);
        x.cue(SHOW, 1, 16, 0);
        x.play(0, 0);
        long sounds = -5L + Integer.MIN_VALUE;
        check.due("points() below zero", x.points(), sounds);
        x.play(0, 0);
        check.due("points() beyond the ints", x.points(), 2 * sounds);
        x.play(1, 3);
        check.due("points() by each view", x.points(), 2 * sounds + 60 + 180 + 65);
        check.due("worth() adds no points", x.worth(6, 4), 60);
        check.due("points() again", x.points(), 2 * sounds + 60 + 180 + 65);
    }

    private void promise12Is() {
        PropStore x = Stores.oneOfEachKind();
        for (int kind = 0; kind < 16; kind++) {
            for (int view = 0; view <= 16; view++) {
                int want = 0;
                for (int as : GOES_AS[kind]) {
                    want = as == view ? 1 : want;
                }
                check.due("is(" + kind + ", " + view + ")", x.is(kind, view), want);
            }
        }
        PropStore y = Stores.oneOfEachKind();
        check.due("is(16, 0)", y.is(16, 0), BAD);
        check.due("is(-1, 0)", y.is(-1, 0), BAD);
        check.due("is(0, -1)", y.is(0, -1), BAD);
        check.due("is(0, 17)", y.is(0, 17), BAD);
        check.due("is(0, 32)", y.is(0, 32), BAD);
        for (int far : FAR) {
            check.due("is(" + far + ", 0)", y.is(far, 0), BAD);
            check.due("is(0, " + far + ")", y.is(0, far), BAD);
        }
    }

    private void promise13WorthOfNumbers() {
        PropStore x = new PropStore();
        x.prop(0, 5);
        x.prop(1, 5);
        x.prop(2, 5);
        x.prop(3, 5);
        for (int i = 0; i < 5; i++) {
            x.set(0, i, -1);
            x.set(1, i, -3 - i);
            x.set(2, i, Integer.MAX_VALUE);
        }
        for (int i = 0; i < 15; i++) {
            x.set(3, i, 128);
        }
        check.due("worth(0, 0)", x.worth(0, 0), 5 * 65535);
        check.due("worth(1, 1)", x.worth(1, 1), -25);
        check.due("worth(2, 2)", x.worth(2, 2), 5L * Integer.MAX_VALUE);
        check.due("worth(3, 3)", x.worth(3, 3), -15 * 128);
        check.due("worth(0, 1)", x.worth(0, 1), 0);
        check.due("worth(3, 0)", x.worth(3, 0), 0);
        check.due("worth(4, 0)", x.worth(4, 0), 0);
        check.due("worth(-1, 0)", x.worth(-1, 0), 0);
        check.due("worth(0, -1)", x.worth(0, -1), 0);
        check.due("worth(0, 32)", x.worth(0, 32), 0);
        for (int far : FAR) {
            check.due("worth(" + far + ", 0)", x.worth(far, 0), 0);
            check.due("worth(0, " + far + ")", x.worth(0, far), 0);
        }
    }

    private void promise13WorthOfPieces() {
        PropStore x = Stores.oneOfEachKind();
        x.slot(0, 4);
        x.slot(1, 5);
        x.slot(2, 6);
        for (int slot = 0; slot < 3; slot++) {
            x.cue(WEAR, slot, 4, 0);
        }
        x.play(0, 2);
        x.play(0, 2);
        x.play(0, 2);
        long[][] want = {{4, 4, 43}, {5, 4, 53}, {5, 5, 6}, {6, 4, 63}, {6, 6, 180}, {6, 16, 65}, {7, 7, 70}, {7, 16, 140}};
        for (int prop = 4; prop < 8; prop++) {
            for (int view = 0; view <= 16; view++) {
                long due = 0;
                for (long[] row : want) {
                    due = row[0] == prop && row[1] == view ? row[2] : due;
                }
                check.due("worth(" + prop + ", " + view + ")", x.worth(prop, view), due);
            }
        }
    }

    private void promise13WorthOfRows() {
        PropStore x = Stores.oneOfEachKind();
        int[][] laid = {{4, 8, 0}, {6, 8, 1}, {5, 9, 1}, {6, 10, 0}, {6, 11, 0}, {7, 11, 1}, {7, 12, 1},
            {8, 13, 0}, {10, 13, 1}, {10, 14, 1}, {10, 15, 0}, {11, 15, 1}};
        for (int[] row : laid) {
            check.due("lay " + row[0] + " in " + row[1], lay(x, row[0], row[1], row[1], row[2]), 2);
        }
        x.slot(0, 5);
        x.slot(1, 6);
        x.cue(WEAR, 0, 5, 0);
        x.cue(WEAR, 1, 6, 0);
        x.play(0, 1);
        x.play(0, 1);
        check.due("rail by 8", x.worth(8, 8), 40 + 62);
        check.due("rack by 8", x.worth(9, 8), 52);
        check.due("rack by 9", x.worth(9, 9), 4);
        check.due("case by 8", x.worth(10, 8), 62);
        check.due("case by 10", x.worth(10, 10), 180);
        check.due("case by 11", x.worth(10, 11), 65);
        check.due("trunk by 11", x.worth(11, 11), 65 + 140);
        check.due("chest by 11", x.worth(12, 11), 140);
        check.due("chest by 12", x.worth(12, 12), 70);
        check.due("wardrobe by 13", x.worth(13, 13), 40 + 62 + 62);
        check.due("vault by 13", x.worth(14, 13), 62);
        check.due("vault by 14", x.worth(14, 14), 180);
        check.due("vault by 15", x.worth(14, 15), 65);
        check.due("store by 15", x.worth(15, 15), 65 + 65 + 140);
        check.due("wardrobe by 14", x.worth(13, 14), 0);
        check.due("rail by 9", x.worth(8, 9), 0);
        check.due("rail by 4", x.worth(8, 4), 0);
    }

    private void promise14Wear() {
        PropStore x = Stores.oneOfEachKind();
        for (int prop = 0; prop < 16; prop++) {
            check.due("wear(" + prop + ")", x.wear(prop), prop >= 4 && prop <= 6 ? 0 : CAST);
        }
        x.slot(0, 5);
        x.cue(WEAR, 0, 4, 0);
        x.cue(WEAR, 0, 5, 0);
        x.play(0, 1);
        check.due("wear(5)", x.wear(5), 2);
        check.due("wear(4)", x.wear(4), 0);
        check.due("wear(16)", x.wear(16), BAD);
        check.due("wear(-1)", x.wear(-1), BAD);
        for (int far : FAR) {
            check.due("wear(" + far + ")", x.wear(far), BAD);
        }
    }

    private void promise15At() {
        PropStore x = Stores.oneOfEachKind();
        for (int prop = 0; prop < 16; prop++) {
            boolean row = prop >= 8;
            check.due("at(" + prop + ", 0)", x.at(prop, 0), row ? NONE : CAST);
            check.due("at(" + prop + ", 1)", x.at(prop, 1), row ? NONE : CAST);
            check.due("at(" + prop + ", 2)", x.at(prop, 2), row ? INDEX : CAST);
            check.due("at(" + prop + ", -1)", x.at(prop, -1), row ? INDEX : CAST);
        }
        lay(x, 7, 11, 11, 1);
        check.due("at(11, 1)", x.at(11, 1), 7);
        check.due("at(11, 0)", x.at(11, 0), NONE);
        check.due("at(16, 0)", x.at(16, 0), BAD);
        check.due("at(-1, 0)", x.at(-1, 0), BAD);
        check.due("BAD before INDEX", x.at(16, -1), BAD);
        for (int far : FAR) {
            check.due("at(" + far + ", 0)", x.at(far, 0), BAD);
            check.due("at(8, " + far + ")", x.at(8, far), INDEX);
        }
        x.slot(0, 11);
        x.cue(TAKE, 0, 11, 1);
        x.play(0, 0);
        check.due("at(11, 1) after a TAKE", x.at(11, 1), NONE);
    }

    private void promise16Count() {
        PropStore x = new PropStore();
        x.prop(4, 1);
        x.prop(5, 1);
        x.cue(SHOW, 0, 0, 0);
        check.due("count(0)", x.count(0), 2);
        check.due("count(1)", x.count(1), 1);
        x.strike();
        check.due("count(0) after strike()", x.count(0), 2);
        check.due("count(1) after strike()", x.count(1), 0);
        check.due("count(2)", x.count(2), BAD);
        check.due("count(-1)", x.count(-1), BAD);
        for (int far : FAR) {
            check.due("count(" + far + ")", x.count(far), BAD);
        }
    }
}
