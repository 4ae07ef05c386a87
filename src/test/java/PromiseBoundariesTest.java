/** The boundary cases of the sections "Promise 1" to "Promise 16", a test for each sentence. */
public final class PromiseBoundariesTest implements Words {
    private final Check check = new Check("PromiseBoundariesTest");

    public static void main(String[] args) {
        PromiseBoundariesTest test = new PromiseBoundariesTest();
        test.newObject();
        test.propNumbers();
        test.propPlaces();
        test.propSize();
        test.propHoldsNothing();
        test.propFull();
        test.setLowest16Bits();
        test.setSoundsWhole();
        test.setLowest8Bits();
        test.setRowAndPlaceOfAPlan();
        test.setAgain();
        test.setOfNoNumbers();
        test.setIndex();
        test.slotTellsWhatItHeld();
        test.slotOfNothing();
        test.slotOfNoSuchProp();
        test.heldTellsAndChangesNothing();
        test.handTellsAndChangesNothing();
        test.cueViewsOfAnAct();
        test.cueNumberI();
        test.cueFull();
        test.strikeOfNone();
        test.strikeOfAll();
        test.strikeKeepsTheRest();
        test.playFromTo();
        test.playTillAMiscue();
        test.playOfOne();
        test.playOfNoSuchCues();
        test.miscueBeforeAPlay();
        test.miscueOfTheLatestPlay();
        test.miscueAfterABadPlay();
        test.miscueTellsEachReason();
        test.miscueWhat();
        test.pointsGrowAndShrink();
        test.pointsBeyondInts();
        test.isOfNothing();
        test.worthIs0();
        test.wearOfEachKind();
        test.atOfEachKind();
        test.atTheLastPlace();
        test.countWhat();
        test.check.end();
    }

    private Run on(String sentence) {
        return new Run(check, sentence);
    }

    private void newObject() {
        Run x = on("No PROPS, no CUES, POINTS 0");
        x.count(0).due(0);
        x.count(1).due(0);
        x.points().due(0);
        x.wear(0).due(BAD);
        x.at(0, 0).due(BAD);
        x.is(0, 0).due(BAD);
        x.worth(0, 0).due(0);
        x.set(0, 0, 1).due(BAD);
        x.slot(0, 0).due(BAD);
        x.slot(0, NONE).due(NONE);
        x.play(0, 0).due(BAD);
        x.strike().due(0);
        // Another object has nothing of the first one.
        x.prop(COSTUME, 1).due(0);
        x.cue(SHOW, 0, 0, 0).due(0);
        Run y = on("No PROPS, no CUES, in a second object");
        y.count(0).due(0);
        y.count(1).due(0);
        y.prop(MASK, 2).due(0);
        x.is(0, MASK).due(0);
        y.is(0, MASK).due(1);
    }

    private void propNumbers() {
        Run x = on("A PROP: its number (0, 1, ..)");
        for (int k = 0; k < 20; k++) {
            // A refused one takes no number.
            x.prop(k % 16, -1).due(BAD);
            x.prop(k % 16, 0).due(k);
        }
    }

    private void propPlaces() {
        for (int kind = SCRIPT; kind <= TRUNK_STORE; kind++) {
            if (Run.isPiece(kind)) {
                continue;
            }
            Run x = on("n: how many places (of a PLAN rows), 0 .. 5, kind " + kind);
            for (int n = 0; n <= 5; n++) {
                x.prop(kind, n).due(n);
                int numbers = kind == PLAN ? 3 * n : n;
                for (int i = -1; i <= 16; i++) {
                    boolean has = i >= 0 && i < numbers;
                    if (kind <= PLAN) {
                        x.set(n, i, 5).due(has ? 1 : INDEX);
                    } else {
                        x.at(n, i).due(has ? NONE : INDEX);
                    }
                }
            }
            int[] beyond = {LOWEST, -6, -1, 6, 7, 100, 256, 65536, HIGHEST};
            for (int n : beyond) {
                x.prop(kind, n).due(BAD);
            }
            x.count(0).due(6);
        }
    }

    private void propSize() {
        Run x = on("of 4 to 7 the SIZE, 0 .. 100");
        int number = 0;
        int[] views = {COSTUME, COSTUME, COSTUME, SWORD};
        int[] sizes = {0, 1, 5, 6, 50, 99, 100};
        int[] beyond = {LOWEST, -100, -1, 101, 128, 256, HIGHEST};
        for (int kind = COSTUME; kind <= SWORD; kind++) {
            for (int size : sizes) {
                x.prop(kind, size).due(number);
                x.worth(number, views[kind - COSTUME]).due(size);
                number++;
            }
            for (int size : beyond) {
                x.prop(kind, size).due(BAD);
            }
        }
        x.count(0).due(number);
    }

    private void propHoldsNothing() {
        Run x = on("numbers are 0, other places hold NOTHING");
        for (int kind = SCRIPT; kind <= PLAN; kind++) {
            x.prop(kind, 5).due(kind);
            x.worth(kind, kind).due(0);
        }
        for (int kind = RAIL; kind <= TRUNK_STORE; kind++) {
            x.prop(kind, 5).due(kind - 4);
            for (int i = 0; i < 5; i++) {
                x.at(kind - 4, i).due(NONE);
            }
        }
    }

    private void propFull() {
        Run x = on("BAD; FULL: 50");
        for (int k = 0; k < 49; k++) {
            x.prop(CROWN, k).due(k);
        }
        x.count(0).due(49);
        x.prop(TRUNK_STORE, 5).due(49);
        for (int kind = SCRIPT; kind <= TRUNK_STORE; kind++) {
            x.prop(kind, 0).due(FULL);
            x.prop(kind, -1).due(BAD);
            x.prop(kind, 101).due(BAD);
        }
        x.prop(CARRIED, 0).due(BAD);
        x.prop(NONE, 0).due(BAD);
        x.count(0).due(50);
        // The first and the last are what they were.
        x.worth(0, COSTUME).due(0);
        x.worth(48, COSTUME).due(48);
        x.is(49, TRUNK_STORE).due(1);
        x.at(49, 4).due(NONE);
        x.is(50, TRUNK_STORE).due(BAD);
        x.slot(0, 49).due(NONE);
        x.slot(0, 50).due(BAD);
        x.held(0).due(49);
    }

    private void setLowest16Bits() {
        Run x = on("the lowest 16 bits of v, the latter with sign");
        x.prop(SCRIPT, 1);
        x.prop(LIGHTS, 1);
        long[][] cut = {
            {0, 0, 0}, {1, 1, 1}, {-1, 65535, -1}, {0x7FFF, 32767, 32767}, {0x8000, 32768, -32768},
            {0xFFFF, 65535, -1}, {0x10000, 0, 0}, {0x10001, 1, 1}, {0x18000, 32768, -32768},
            {-0x8000, 32768, -32768}, {-0x8001, 32767, 32767}, {-0x10000, 0, 0}, {-0x10001, 65535, -1},
            {HIGHEST, 65535, -1}, {LOWEST, 0, 0}, {LOWEST + 1, 1, 1}, {0x12345678, 0x5678, 0x5678},
        };
        for (long[] one : cut) {
            x.set(0, 0, (int) one[0]).due(1);
            x.worth(0, SCRIPT).due(one[1]);
            x.set(1, 0, (int) one[0]).due(1);
            x.worth(1, LIGHTS).due(one[2]);
        }
    }

    private void setSoundsWhole() {
        Run x = on("Number i .. of SOUNDS .. becomes v");
        x.prop(SOUNDS, 1);
        int[] values = {0, 1, -1, 0x80, 0x8000, 0xFFFF, 0x10000, -0x8001, HIGHEST, LOWEST};
        for (int v : values) {
            x.set(0, 0, v).due(1);
            x.worth(0, SOUNDS).due(v);
        }
    }

    private void setLowest8Bits() {
        Run x = on("the lowest 8 bits, with sign");
        x.prop(PLAN, 1);
        int[][] cut = {
            {0, 0}, {1, 1}, {-1, -1}, {127, 127}, {128, -128}, {129, -127}, {255, -1}, {256, 0}, {257, 1},
            {-128, -128}, {-129, 127}, {-256, 0}, {0x8000, 0}, {0x807F, 127}, {HIGHEST, -1}, {LOWEST, 0},
        };
        for (int[] one : cut) {
            x.set(0, 2, one[0]).due(1);
            x.worth(0, PLAN).due(one[1]);
        }
    }

    private void setRowAndPlaceOfAPlan() {
        Run x = on("of a PLAN (row i / 3, i % 3 in it ..)");
        x.prop(PLAN, 2);
        int sum = 0;
        for (int i = 0; i < 6; i++) {
            x.set(0, i, 1 << i).due(1);
            sum += 1 << i;
            x.worth(0, PLAN).due(sum);
        }
        for (int i = 0; i < 6; i++) {
            x.set(0, i, 0).due(1);
            sum -= 1 << i;
            x.worth(0, PLAN).due(sum);
        }
        // Their i / 3 or i % 3 alone would be in range.
        int[] beyond = {-6, -5, -4, -3, -2, -1, 6, 7, 8, 9, LOWEST, HIGHEST};
        for (int i : beyond) {
            x.set(0, i, 1).due(INDEX);
        }
        x.worth(0, PLAN).due(0);
    }

    private void setAgain() {
        Run x = on("Number i .. becomes v: what it was is gone");
        for (int kind = SCRIPT; kind <= PLAN; kind++) {
            x.prop(kind, 3);
            x.prop(kind, 3);
            x.set(2 * kind, 1, 9).due(1);
            x.set(2 * kind, 1, 9).due(1);
            x.set(2 * kind, 2, 4).due(1);
            x.worth(2 * kind, kind).due(13);
            x.set(2 * kind, 1, 2).due(1);
            x.worth(2 * kind, kind).due(6);
            x.worth(2 * kind + 1, kind).due(0);
        }
    }

    private void setOfNoNumbers() {
        Run x = on("CAST: it has no numbers").oneOfEachKind();
        for (int kind = COSTUME; kind <= TRUNK_STORE; kind++) {
            x.set(kind, 0, 1).due(CAST);
            x.set(kind, 5, 1).due(CAST);
            x.set(kind, -1, 1).due(CAST);
        }
    }

    private void setIndex() {
        Run x = on("BAD; CAST ..; INDEX").oneOfEachKind();
        int[] beyond = {LOWEST, -2, -1, 6, 256, 65536, HIGHEST};
        for (int kind = SCRIPT; kind <= PLAN; kind++) {
            int numbers = kind == PLAN ? 6 : 2;
            x.set(kind, numbers - 1, 3).due(1);
            x.set(kind, numbers, 3).due(INDEX);
            for (int i : beyond) {
                x.set(kind, i, 3).due(INDEX);
            }
            x.worth(kind, kind).due(3);
        }
        x.set(16, 0, 1).due(BAD);
        x.set(16, -1, 1).due(BAD);
        x.set(NONE, 0, 1).due(BAD);
        x.set(LOWEST, LOWEST, 1).due(BAD);
        x.set(HIGHEST, HIGHEST, 1).due(BAD);
    }

    private void slotTellsWhatItHeld() {
        Run x = on("A SLOT holds a PROP ..: what it held (NONE)").oneOfEachKind();
        for (int slot = 0; slot <= 9; slot += 9) {
            x.slot(slot, 0).due(NONE);
            x.slot(slot, 15).due(0);
            x.slot(slot, 15).due(15);
            x.held(slot).due(15);
        }
    }

    private void slotOfNothing() {
        Run x = on("or NOTHING (NONE)").oneOfEachKind();
        x.slot(3, NONE).due(NONE);
        x.slot(3, 5).due(NONE);
        x.slot(3, NONE).due(5);
        x.slot(3, NONE).due(NONE);
        x.held(3).due(NONE);
        x.act(SHOW, 3, MASK, 0).due(EMPTY);
    }

    private void slotOfNoSuchProp() {
        Run x = on("A SLOT holds a PROP ..: BAD").oneOfEachKind();
        x.slot(0, 4);
        int[] beyond = {LOWEST, -3, -2, 16, 49, 50, 51, 256, HIGHEST};
        for (int prop : beyond) {
            x.slot(0, prop).due(BAD);
            x.held(0).due(4);
        }
        x.slot(10, 16).due(BAD);
    }

    private void heldTellsAndChangesNothing() {
        Run x = on("What a SLOT holds; NONE. BAD").oneOfEachKind();
        x.slot(0, 0);
        x.slot(9, 15);
        for (int again = 0; again < 2; again++) {
            x.held(0).due(0);
            x.held(9).due(15);
            x.held(5).due(NONE);
            x.held(-1).due(BAD);
            x.held(10).due(BAD);
            x.held(LOWEST).due(BAD);
            x.held(HIGHEST).due(BAD);
        }
    }

    private void handTellsAndChangesNothing() {
        Run x = on("What THE HAND has; NONE").oneOfEachKind();
        x.hand().due(NONE);
        x.give(0);
        x.hand().due(0);
        x.hand().due(0);
        x.give(15);
        x.hand().due(15);
        x.act(SWAP, 2, 0, 0).due(DONE);
        x.hand().due(NONE);
    }

    private void cueViewsOfAnAct() {
        Run x = on("BAD: also a VIEW that the ACT has not");
        for (int act = SHOW; act <= SHARE; act++) {
            for (int view = SCRIPT; view <= CARRIED; view++) {
                boolean row = view >= RAIL && view <= TRUNK_STORE;
                boolean worn = view >= 4 && view <= 6 || view >= 8 && view <= 10 || view == 13 || view == 14;
                boolean has = act == WEAR ? worn : act == TAKE || act == LAY ? row : true;
                x.cue(act, 9, view, 9).due(has ? 0 : BAD);
                x.strike().due(has ? 1 : 0);
            }
        }
        int[] beyond = {LOWEST, -6, -1, 6, 7, 32, 256, HIGHEST};
        for (int act : beyond) {
            x.cue(act, 0, RAIL, 0).due(BAD);
        }
    }

    private void cueNumberI() {
        Run x = on("or i not 0 .. 9");
        int[] beyond = {LOWEST, -10, -1, 10, 11, 256, HIGHEST};
        for (int act = SHOW; act <= SHARE; act++) {
            x.cue(act, 0, RAIL, 0).due(3 * act);
            x.cue(act, 0, RAIL, 5).due(3 * act + 1);
            x.cue(act, 0, RAIL, 9).due(3 * act + 2);
            for (int i : beyond) {
                x.cue(act, 0, RAIL, i).due(BAD);
            }
        }
        x.count(1).due(18);
    }

    private void cueFull() {
        Run x = on("BAD ..; FULL").oneOfEachKind();
        x.slot(0, COSTUME);
        for (int k = 0; k < 29; k++) {
            x.cue(WEAR, 0, COSTUME, 0).due(k);
        }
        x.count(1).due(29);
        x.cue(SHOW, 0, COSTUME, 0).due(29);
        for (int act = SHOW; act <= SHARE; act++) {
            x.cue(act, 0, RAIL, 0).due(FULL);
            x.cue(act, 10, RAIL, 0).due(BAD);
            x.cue(act, 0, 17, 0).due(BAD);
            x.cue(act, 0, RAIL, 10).due(BAD);
        }
        x.cue(6, 0, RAIL, 0).due(BAD);
        x.cue(WEAR, 0, SWORD, 0).due(BAD);
        x.count(1).due(30);
        x.play(0, 29).due(30);
        x.points().due(40 + 29);
    }

    private void strikeOfNone() {
        Run x = on("All CUES are struck: how many there were, none");
        x.strike().due(0);
        x.strike().due(0);
        x.count(1).due(0);
        x.cue(SWAP, 0, 0, 0).due(0);
    }

    private void strikeOfAll() {
        Run x = on("All CUES are struck: how many there were, 30").oneOfEachKind();
        x.slot(0, COSTUME);
        for (int round = 0; round < 3; round++) {
            for (int k = 0; k < 30; k++) {
                x.cue(SHOW, 0, COSTUME, 0).due(k);
            }
            x.cue(SHOW, 0, COSTUME, 0).due(FULL);
            x.strike().due(30);
            x.strike().due(0);
            x.play(0, 0).due(BAD);
            x.play(0, 29).due(BAD);
        }
        // Old cues do not stand behind a new one.
        x.cue(WEAR, 0, COSTUME, 0).due(0);
        x.play(0, 1).due(BAD);
        x.play(0, 0).due(1);
        x.wear(COSTUME).due(1);
        x.points().due(0);
    }

    private void strikeKeepsTheRest() {
        Run x = on("All CUES are struck: nothing else changes").oneOfEachKind();
        x.lay(CROWN, CASE, 1);
        x.give(SWORD);
        x.slot(0, CASE);
        x.cue(SHOW, 0, CASE, 0);
        x.cue(WEAR, 0, CASE, 0);
        x.cue(TAKE, 0, CASE, 2);
        x.play(0, 2).due(2);
        x.strike().due(3);
        x.hand().due(SWORD);
        x.held(0).due(CASE);
        x.at(CASE, 1).due(CROWN);
        x.wear(CROWN).due(1);
        x.points().due(180);
        x.count(0).due(16);
        x.dueMiscue(INDEX, 2, 1);
    }

    private void playFromTo() {
        Run x = on("CUES from .. to are played, in order").oneOfEachKind();
        for (int slot = 0; slot < 9; slot++) {
            x.cue(SHARE, slot, SCRIPT, slot + 1);
        }
        x.slot(0, SCRIPT);
        x.play(0, 8).due(9);
        x.held(9).due(SCRIPT);
        for (int slot = 1; slot <= 9; slot++) {
            x.slot(slot, NONE).due(SCRIPT);
        }
        x.play(1, 8).due(8);
        x.held(1).due(NONE);
        x.play(0, 3).due(4);
        x.held(4).due(SCRIPT);
        x.held(5).due(NONE);
        x.play(4, 4).due(1);
        x.held(5).due(SCRIPT);
        x.held(6).due(NONE);
    }

    private void playTillAMiscue() {
        Run x = on("till a MISCUE: how many were done").oneOfEachKind();
        x.slot(0, COSTUME);
        x.slot(1, MASK);
        for (int k = 0; k < 30; k++) {
            x.cue(SHOW, k == 17 ? 1 : 0, k == 17 ? CROWN : COSTUME, 0).due(k);
        }
        x.play(0, 29).due(17);
        x.points().due(17 * 40);
        x.dueMiscue(CAST, 17, 1);
        x.play(17, 29).due(0);
        x.points().due(17 * 40);
        x.dueMiscue(CAST, 17, 2);
        x.play(18, 29).due(12);
        x.points().due(29 * 40);
        x.dueMiscue(0, NONE, 2);
        x.play(10, 17).due(7);
        x.points().due(36 * 40);
        x.dueMiscue(CAST, 17, 3);
    }

    private void playOfOne() {
        Run x = on("CUES from .. to are played: to is from").oneOfEachKind();
        x.slot(0, COSTUME);
        for (int k = 0; k < 30; k++) {
            x.cue(WEAR, 0, COSTUME, 0);
        }
        x.play(0, 0).due(1);
        x.play(29, 29).due(1);
        x.play(28, 29).due(2);
        x.wear(COSTUME).due(4);
    }

    private void playOfNoSuchCues() {
        Run x = on("BAD: no such CUES, or to is below from").oneOfEachKind();
        x.slot(0, COSTUME);
        x.cue(WEAR, 0, COSTUME, 0);
        x.cue(WEAR, 0, COSTUME, 0);
        int[][] bad = {
            {-1, -1}, {-1, 0}, {-1, 1}, {0, 2}, {1, 2}, {2, 2}, {2, 3}, {1, 0}, {0, -1}, {2, 1}, {2, 0},
            {0, 29}, {0, 30}, {29, 29}, {30, 30}, {LOWEST, 0}, {LOWEST, LOWEST}, {0, HIGHEST}, {0, LOWEST},
            {HIGHEST, HIGHEST}, {HIGHEST, 0}, {LOWEST, HIGHEST}, {HIGHEST, LOWEST}, {1, LOWEST},
        };
        for (int[] one : bad) {
            x.play(one[0], one[1]).due(BAD);
            x.wear(COSTUME).due(0);
        }
        x.dueMiscue(0, NONE, 0);
        x.play(0, 1).due(2);
    }

    private void miscueBeforeAPlay() {
        Run x = on("Of the latest play() that was not BAD: there was none");
        x.dueMiscue(0, NONE, 0);
        x.play(0, 0).due(BAD);
        x.dueMiscue(0, NONE, 0);
        x.cue(SHOW, 0, 0, 0);
        x.dueMiscue(0, NONE, 0);
    }

    private void miscueOfTheLatestPlay() {
        Run x = on("what = 0 why .. (0: none), 1 at which CUE (NONE), and 2 how often there was one, in all");
        x.prop(COSTUME, 1);
        x.slot(9, 0);
        x.cue(SHOW, 9, COSTUME, 0);
        x.cue(SHOW, 0, COSTUME, 0);
        x.cue(SHOW, 9, MASK, 0);
        x.play(0, 2).due(1);
        x.dueMiscue(EMPTY, 1, 1);
        x.play(2, 2).due(0);
        x.dueMiscue(CAST, 2, 2);
        x.play(0, 0).due(1);
        x.dueMiscue(0, NONE, 2);
        x.play(1, 1).due(0);
        x.dueMiscue(EMPTY, 1, 3);
        x.strike().due(3);
        x.cue(SHOW, 9, MASK, 0);
        x.play(0, 0).due(0);
        x.dueMiscue(CAST, 0, 4);
    }

    private void miscueAfterABadPlay() {
        Run x = on("Of the latest play() that was not BAD");
        x.cue(SHOW, 0, 0, 0);
        x.cue(SWAP, 0, 0, 0);
        x.play(0, 1).due(0);
        x.play(1, 0).due(BAD);
        x.dueMiscue(EMPTY, 0, 1);
        x.play(0, 2).due(BAD);
        x.play(-1, 0).due(BAD);
        x.dueMiscue(EMPTY, 0, 1);
        x.play(1, 1).due(1);
        x.play(2, 2).due(BAD);
        x.dueMiscue(0, NONE, 1);
    }

    private void miscueTellsEachReason() {
        Run x = on("why it was a MISCUE (EMPTY, CAST, INDEX, STORE; 0: none)").oneOfEachKind();
        x.slot(0, CASE);
        x.give(SWORD);
        x.cue(SHOW, 0, CASE, 0);
        x.cue(SHOW, 1, CASE, 0);
        x.cue(SHOW, 0, CHEST, 0);
        x.cue(TAKE, 0, CASE, 2);
        x.cue(LAY, 0, TRUNK, 0);
        int[] why = {0, EMPTY, CAST, INDEX, STORE};
        for (int k = 0; k < why.length; k++) {
            x.play(k, k).due(k == 0 ? 1 : 0);
            x.dueMiscue(why[k], k == 0 ? NONE : k, k);
        }
    }

    private void miscueWhat() {
        Run x = on("miscue: BAD");
        int[] beyond = {LOWEST, -2, -1, 3, 4, 256, HIGHEST};
        for (int what : beyond) {
            x.miscue(what).due(BAD);
        }
    }

    private void pointsGrowAndShrink() {
        Run x = on("POINTS, below 0 too");
        x.prop(LIGHTS, 1);
        x.prop(SWORD, 30);
        x.set(0, 0, -100);
        x.slot(0, 0);
        x.slot(1, 1);
        x.cue(SHOW, 0, LIGHTS, 0);
        x.cue(SHOW, 1, CARRIED, 0);
        x.play(0, 0).due(1);
        x.points().due(-100);
        x.play(1, 1).due(1);
        x.points().due(-40);
        x.play(1, 1).due(1);
        x.points().due(20);
    }

    private void pointsBeyondInts() {
        Run x = on("POINTS (longs that wrap)");
        x.prop(SOUNDS, 5);
        x.slot(0, 0);
        for (int k = 0; k < 30; k++) {
            x.cue(SHOW, 0, SOUNDS, 0);
        }
        for (int i = 0; i < 5; i++) {
            x.set(0, i, HIGHEST);
        }
        x.play(0, 29).due(30);
        x.points().due(150L * HIGHEST);
        for (int i = 0; i < 5; i++) {
            x.set(0, i, LOWEST);
        }
        x.play(0, 29).due(30);
        x.points().due(-150);
        x.play(0, 29).due(30);
        x.points().due(150L * LOWEST - 150);
    }

    private void isOfNothing() {
        Run x = on("Whether a PROP GOES AS a VIEW: 1, 0. BAD").oneOfEachKind();
        int[] noProp = {LOWEST, -2, NONE, 16, 49, 50, 256, HIGHEST};
        for (int prop : noProp) {
            x.is(prop, COSTUME).due(BAD);
            x.is(prop, -1).due(BAD);
            x.is(prop, 17).due(BAD);
        }
        x.is(0, 0).due(1);
        x.is(15, 15).due(1);
        x.is(15, 16).due(0);
        x.is(15, 17).due(BAD);
        x.is(0, -1).due(BAD);
    }

    private void worthIs0() {
        Run x = on("0: BAD, or it does not GO AS that").oneOfEachKind();
        int[] noProp = {LOWEST, -2, NONE, 16, 49, 50, 256, HIGHEST};
        for (int prop : noProp) {
            x.worth(prop, COSTUME).due(0);
            x.worth(prop, -1).due(0);
        }
        int[] noView = {LOWEST, -1, 17, 32 + COSTUME, HIGHEST};
        for (int view : noView) {
            x.worth(COSTUME, view).due(0);
        }
        x.worth(COSTUME, MASK).due(0);
        x.worth(COSTUME, CARRIED).due(0);
        x.worth(MASK, CROWN).due(0);
        x.worth(SWORD, COSTUME).due(0);
        x.worth(CROWN, SWORD).due(0);
        x.worth(COSTUME, COSTUME).due(40);
    }

    private void wearOfEachKind() {
        Run x = on("THE WEAR of a COSTUME, MASK, CROWN. BAD; CAST").oneOfEachKind();
        for (int kind = SCRIPT; kind <= TRUNK_STORE; kind++) {
            x.wear(kind).due(kind >= COSTUME && kind <= CROWN ? 0 : CAST);
        }
        int[] noProp = {LOWEST, -2, NONE, 16, 49, 50, 256, HIGHEST};
        for (int prop : noProp) {
            x.wear(prop).due(BAD);
        }
        for (int kind = COSTUME; kind <= CROWN; kind++) {
            x.slot(0, kind);
            x.act(WEAR, 0, kind, 0).due(DONE);
            x.wear(kind).due(1);
        }
    }

    private void atOfEachKind() {
        Run x = on("a row of PROPS (8 to 15) .. BAD; CAST; INDEX").oneOfEachKind();
        int[] places = {LOWEST, -1, 0, 1, 2, 5, HIGHEST};
        for (int kind = SCRIPT; kind <= TRUNK_STORE; kind++) {
            for (int i : places) {
                x.at(kind, i).due(kind < RAIL ? CAST : i == 0 || i == 1 ? NONE : INDEX);
            }
        }
        int[] noProp = {LOWEST, -2, NONE, 16, 49, 50, 256, HIGHEST};
        for (int prop : noProp) {
            x.at(prop, 0).due(BAD);
            x.at(prop, -1).due(BAD);
        }
    }

    private void atTheLastPlace() {
        Run x = on("The PROP at place i .. NONE: NOTHING");
        x.prop(MASK, 1);
        x.prop(RACK, 5);
        x.lay(0, 1, 4);
        x.at(1, 4).due(0);
        x.at(1, 5).due(INDEX);
        x.at(1, 3).due(NONE);
        x.lay(0, 1, 0);
        x.at(1, 0).due(0);
        x.at(1, -1).due(INDEX);
    }

    private void countWhat() {
        Run x = on("How many: 0 PROPS, 1 CUES. BAD");
        int[] beyond = {LOWEST, -2, -1, 2, 3, 256, HIGHEST};
        for (int what : beyond) {
            x.count(what).due(BAD);
        }
        for (int k = 1; k <= 50; k++) {
            x.prop(SWORD, 0);
            x.count(0).due(k);
            x.count(1).due(0);
        }
        for (int k = 1; k <= 30; k++) {
            x.cue(SWAP, 0, 0, 0);
            x.count(1).due(k);
        }
        x.prop(SWORD, 0).due(FULL);
        x.cue(SWAP, 0, 0, 0).due(FULL);
        x.count(0).due(50);
        x.count(1).due(30);
        x.strike().due(30);
        x.count(0).due(50);
        x.count(1).due(0);
    }
}
