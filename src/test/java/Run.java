import java.util.ArrayList;

/**
 * A run of calls on a new store, for one sentence of the document: each call is named and counted,
 * so that no test rests on what a store answers after its 512th call.
 */
final class Run implements Words {
    static final int MOST_CALLS = 512;

    private final Check check;
    private final String sentence;
    private final PropStore store = new PropStore();
    private final ArrayList<int[]> made = new ArrayList<>();
    private int calls;
    private String call;
    private long answer;

    Run(Check check, String sentence) {
        this.check = check;
        this.sentence = sentence;
    }

    private Run answered(long got, String name, int... arguments) {
        calls++;
        check.that(sentence + ": call " + calls + " of a store", calls <= MOST_CALLS);
        StringBuilder text = new StringBuilder(name).append('(');
        for (int k = 0; k < arguments.length; k++) {
            text.append(k == 0 ? "" : ", ").append(arguments[k]);
        }
        call = text.append(')').toString();
        answer = got;
        return this;
    }

    /** What the latest call had to answer. */
    Run due(long want) {
        check.due(sentence + ": call " + calls + ", " + call, answer, want);
        return this;
    }

    int calls() {
        return calls;
    }

    Run prop(int kind, int n) {
        answered(store.prop(kind, n), "prop", kind, n);
        if (answer >= 0) {
            made.add(new int[] {kind, n});
        }
        return this;
    }

    Run set(int prop, int i, int v) {
        return answered(store.set(prop, i, v), "set", prop, i, v);
    }

    Run slot(int slot, int prop) {
        return answered(store.slot(slot, prop), "slot", slot, prop);
    }

    Run held(int slot) {
        return answered(store.held(slot), "held", slot);
    }

    Run hand() {
        return answered(store.hand(), "hand");
    }

    Run cue(int act, int slot, int view, int i) {
        return answered(store.cue(act, slot, view, i), "cue", act, slot, view, i);
    }

    Run strike() {
        return answered(store.strike(), "strike");
    }

    Run play(int from, int to) {
        return answered(store.play(from, to), "play", from, to);
    }

    Run miscue(int what) {
        return answered(store.miscue(what), "miscue", what);
    }

    Run points() {
        return answered(store.points(), "points");
    }

    Run is(int prop, int view) {
        return answered(store.is(prop, view), "is", prop, view);
    }

    Run worth(int prop, int view) {
        return answered(store.worth(prop, view), "worth", prop, view);
    }

    Run wear(int prop) {
        return answered(store.wear(prop), "wear", prop);
    }

    Run at(int prop, int i) {
        return answered(store.at(prop, i), "at", prop, i);
    }

    Run count(int what) {
        return answered(store.count(what), "count", what);
    }

    /** Props 0 .. 15, each of the kind that is its number: SIZE 10 times that, or two places. */
    Run oneOfEachKind() {
        for (int kind = SCRIPT; kind <= TRUNK_STORE; kind++) {
            prop(kind, isPiece(kind) ? 10 * kind : 2).due(kind);
        }
        return this;
    }

    /** Strikes all cues, writes one and plays it. The answer is DONE, or why it was a miscue. */
    Run act(int act, int slot, int view, int i) {
        strike();
        cue(act, slot, view, i).due(0);
        play(0, 0);
        long done = answer;
        miscue(0);
        check.due(sentence + ": cues done of " + act + ", " + slot + ", " + view + ", " + i, done, answer == DONE ? 1 : 0);
        return this;
    }

    /** Puts a prop into the hand; slot 9 holds NOTHING then, and the cues are struck. */
    Run give(int prop) {
        slot(9, prop);
        act(SWAP, 9, kindOf(prop), 0).due(DONE);
        strike();
        slot(9, NONE);
        return this;
    }

    /** Lays a prop in a row by the row's own kind; slots 8 and 9 hold NOTHING then. */
    Run lay(int prop, int row, int i) {
        give(prop);
        slot(8, row);
        act(LAY, 8, kindOf(row), i).due(DONE);
        strike();
        slot(8, NONE);
        return this;
    }

    /** All that the calls tell of the store, but for miscue() and the cues themselves. */
    String state() {
        StringBuilder text = new StringBuilder();
        text.append(count(0).answer).append(' ').append(count(1).answer);
        text.append(" points ").append(points().answer).append(" hand ").append(hand().answer);
        for (int slot = 0; slot <= 9; slot++) {
            text.append(" slot ").append(held(slot).answer);
        }
        for (int prop = 0; prop < made.size(); prop++) {
            text.append(" prop ").append(worth(prop, kindOf(prop)).answer).append(' ').append(wear(prop).answer);
            for (int i = 0; i < made.get(prop)[1] && kindOf(prop) >= RAIL; i++) {
                text.append(" at ").append(at(prop, i).answer);
            }
        }
        return text.toString();
    }

    void dueState(String want) {
        String got = state();
        check.that(sentence + ": the state is " + got + ", due is " + want, got.equals(want));
    }

    void dueMiscue(int why, int where, int often) {
        miscue(0).due(why);
        miscue(1).due(where);
        miscue(2).due(often);
    }

    private int kindOf(int prop) {
        return made.get(prop)[0];
    }

    static boolean isPiece(int kind) {
        return kind >= COSTUME && kind <= SWORD;
    }
}
