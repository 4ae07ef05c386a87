/** Pseudo-random runs of 512 calls: the store must answer each call as the model over Java's own arrays does. */
public final class ModelTest {
    private static final int RUNS = 8000, CALLS = 512;

    private final Check check = new Check("ModelTest");
    private final int[] reasons = new int[8];
    private long seed;

    public static void main(String[] args) {
        ModelTest test = new ModelTest();
        for (int run = 0; run < RUNS && test.check.isClean(); run++) {
            test.run(run);
        }
        test.everyReasonWasMet();
        test.check.end();
        // Its answers are not counted: the document leaves them free.
        new ModelTest().noCallFailsLater();
    }

    private int below(int bound) {
        seed = seed * 6364136223846793005L + 1442695040888963407L;
        return (int) ((seed >>> 33) % bound);
    }

    /** Mostly 0 .. most - 1, sometimes a little or far beyond. */
    private int near(int most) {
        switch (below(40)) {
            case 0: return -1;
            case 1: return most;
            case 2: return below(4) == 0 ? Integer.MIN_VALUE : -2 - below(40);
            case 3: return below(4) == 0 ? Integer.MAX_VALUE : most + below(40);
            default: return below(Math.max(1, most));
        }
    }

    private void run(int run) {
        seed = run * 7919L + 13;
        PropStore x = new PropStore();
        ArrayModel model = new ArrayModel();
        int calls = 0;
        // Most runs begin with a full cast, so that rows and what goes into them meet.
        for (int kind = 0; kind < 16 && run % 4 != 0; kind++) {
            int n = kind >= 4 && kind <= 7 ? below(101) : 1 + below(5);
            check.due("run " + run + ": prop(" + kind + ", " + n + ")", x.prop(kind, n), model.prop(kind, n));
            calls++;
        }
        for (; calls < CALLS && check.isClean(); calls++) {
            String at = "run " + run + ", call " + calls + ": ";
            if (below(3) == 0) {
                read(at, x, model);
            } else {
                change(at, x, model);
            }
        }
    }

    private void change(String at, PropStore x, ArrayModel model) {
        int props = model.count(0);
        int choice = below(100);
        if (choice < 8) {
            int kind = near(16);
            int n = kind >= 4 && kind <= 7 ? near(101) : near(6);
            check.due(at + "prop(" + kind + ", " + n + ")", x.prop(kind, n), model.prop(kind, n));
        } else if (choice < 14) {
            int prop = near(below(2) == 0 ? 4 : props);
            int i = near(15);
            int v = below(2) == 0 ? below(70000) - 35000 : (int) (seed >>> 20);
            check.due(at + "set(" + prop + ", " + i + ", " + v + ")", x.set(prop, i, v), model.set(prop, i, v));
        } else if (choice < 34) {
            int slot = near(10);
            int prop = near(props);
            check.due(at + "slot(" + slot + ", " + prop + ")", x.slot(slot, prop), model.slot(slot, prop));
        } else if (choice < 66) {
            writeCue(at, x, model);
        } else if (choice < 68) {
            check.due(at + "strike()", x.strike(), model.strike());
        } else {
            int from = near(model.count(1));
            int to = below(3) == 0 ? near(model.count(1)) : from + below(3);
            check.due(at + "play(" + from + ", " + to + ")", x.play(from, to), model.play(from, to));
            int why = model.miscue(0);
            reasons[-why]++;
        }
    }

    private void writeCue(String at, PropStore x, ArrayModel model) {
        int act = below(4) == 0 ? 3 : near(6);
        int slot = near(10);
        int view = near(17);
        if (model.held(slot) >= 0 && below(3) != 0) {
            view = viewOf(model, model.held(slot));
        }
        int i = below(3) == 0 ? near(10) : near(3);
        String call = at + "cue(" + act + ", " + slot + ", " + view + ", " + i + ")";
        check.due(call, x.cue(act, slot, view, i), model.cue(act, slot, view, i));
    }

    private int viewOf(ArrayModel model, int prop) {
        int first = below(17);
        for (int k = 0; k < 17; k++) {
            if (model.is(prop, (first + k) % 17) == 1) {
                return (first + k) % 17;
            }
        }
        return 0;
    }

    private void read(String at, PropStore x, ArrayModel model) {
        int prop = near(model.count(0));
        int i = near(6);
        int slot = near(10);
        int view = near(17);
        switch (below(10)) {
            case 0: check.due(at + "held(" + slot + ")", x.held(slot), model.held(slot)); break;
            case 1: check.due(at + "hand()", x.hand(), model.hand()); break;
            case 2: check.due(at + "miscue(" + i + ")", x.miscue(i), model.miscue(i)); break;
            case 3: check.due(at + "points()", x.points(), model.points()); break;
            case 4: check.due(at + "is(" + prop + ", " + view + ")", x.is(prop, view), model.is(prop, view)); break;
            case 5: check.due(at + "worth(" + prop + ", " + view + ")", x.worth(prop, view), model.worth(prop, view)); break;
            case 6: check.due(at + "wear(" + prop + ")", x.wear(prop), model.wear(prop)); break;
            case 7: check.due(at + "at(" + prop + ", " + i + ")", x.at(prop, i), model.at(prop, i)); break;
            case 8: check.due(at + "count(" + i + ")", x.count(i), model.count(i)); break;
            default:
                int as = prop >= 0 && prop < model.count(0) ? viewOf(model, prop) : view;
                check.due(at + "worth(" + prop + ", " + as + ")", x.worth(prop, as), model.worth(prop, as));
        }
    }

    /** A run that never meets a reason tests nothing of it. */
    private void everyReasonWasMet() {
        int[] met = {0, 4, 5, 6, 7};
        for (int reason : met) {
            check.that("reason -" + reason + " was met " + reasons[reason] + " times only",
                    !check.isClean() || reasons[reason] > 500);
        }
    }

    /** What later calls answer is free, but none may fail; a failure ends this test with a trace. */
    private void noCallFailsLater() {
        PropStore x = new PropStore();
        ArrayModel model = new ArrayModel();
        seed = 99;
        for (int calls = 0; calls < 20000; calls++) {
            if (below(3) == 0) {
                read("later: ", x, model);
            } else {
                change("later: ", x, model);
            }
        }
    }
}
