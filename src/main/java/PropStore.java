/** A theatre's property store: props in slots, and cues that are played on them, each by its view. */
public final class PropStore {
    public static final int NONE = -1, BAD = -2, FULL = -3, EMPTY = -4, CAST = -5, INDEX = -6, STORE = -7;

    // Views bear the numbers of the kinds; CARRIED is a view alone. The kind STORE is TRUNK_STORE
    // here, for the document gives its name to a refusal, too.
    private static final int SCRIPT = 0, LIGHTS = 1, SOUNDS = 2, PLAN = 3;
    private static final int COSTUME = 4, MASK = 5, CROWN = 6, SWORD = 7;
    private static final int RAIL = 8, RACK = 9, CASE = 10, TRUNK = 11, CHEST = 12;
    private static final int WARDROBE = 13, VAULT = 14, TRUNK_STORE = 15;
    private static final int CARRIED = 16;

    private static final int SHOW = 0, WEAR = 1, TAKE = 2, LAY = 3, SWAP = 4, SHARE = 5;

    private static final int MOST_PROPS = 50, MOST_CUES = 30, SLOTS = 10;
    private static final int MOST_PLACES = 5, MOST_SIZE = 100, PLAN_WIDTH = 3;

    private static final int DONE = 0;

    /** For each kind the views that it goes as, a bit for each. */
    private static final int[] GOES_AS = {
        1 << SCRIPT,
        1 << LIGHTS,
        1 << SOUNDS,
        1 << PLAN,
        1 << COSTUME,
        1 << MASK | 1 << COSTUME,
        1 << CROWN | 1 << COSTUME | 1 << CARRIED,
        1 << SWORD | 1 << CARRIED,
        1 << RAIL,
        1 << RACK | 1 << RAIL,
        1 << CASE | 1 << RAIL | 1 << TRUNK,
        1 << TRUNK,
        1 << CHEST | 1 << TRUNK,
        1 << WARDROBE,
        1 << VAULT | 1 << WARDROBE | 1 << TRUNK_STORE,
        1 << TRUNK_STORE,
    };

    private static final int ALL_VIEWS = (1 << CARRIED + 1) - 1;
    private static final int ROW_VIEWS = 1 << RAIL | 1 << RACK | 1 << CASE | 1 << TRUNK | 1 << CHEST
            | 1 << WARDROBE | 1 << VAULT | 1 << TRUNK_STORE;
    private static final int WORN_VIEWS = 1 << COSTUME | 1 << MASK | 1 << CROWN
            | 1 << RAIL | 1 << RACK | 1 << CASE | 1 << WARDROBE | 1 << VAULT;

    /** For each act the views that it has, a bit for each. */
    private static final int[] ACT_VIEWS = {ALL_VIEWS, WORN_VIEWS, ROW_VIEWS, ROW_VIEWS, ALL_VIEWS, ALL_VIEWS};

    /** For each view of a row, from RAIL on, the view by which its parts are seen. */
    private static final int[] PART_VIEWS = {COSTUME, MASK, CROWN, CARRIED, SWORD, RAIL, CASE, TRUNK};

    private final Prop[] props;
    private int propCount;
    private final Prop[] slots;
    private Prop inHand;
    private final Cue[] cues;
    private int cueCount;
    private long score;
    private int missReason;
    private int missedCue;
    private int missCount;

    public PropStore() {
        props = new Prop[MOST_PROPS];
        slots = new Prop[SLOTS];
        cues = new Cue[MOST_CUES];
        missedCue = NONE;
    }

    public int prop(int kind, int n) {
        if (kind < SCRIPT || kind > TRUNK_STORE || n < 0 || n > mostOf(kind)) {
            return BAD;
        }
        if (propCount >= MOST_PROPS) {
            return FULL;
        }
        props[propCount] = newProp(propCount, kind, n);
        propCount++;
        return propCount - 1;
    }

    public int set(int prop, int i, int v) {
        Prop found = find(prop);
        if (found == null) {
            return BAD;
        }
        if (!(found instanceof Numbers row)) {
            return CAST;
        }
        return row.put(i, v) ? 1 : INDEX;
    }

    public int slot(int slot, int prop) {
        Prop next = find(prop);
        if (!isSlot(slot) || next == null && prop != NONE) {
            return BAD;
        }
        Prop before = slots[slot];
        slots[slot] = next;
        return numberOf(before);
    }

    public int held(int slot) {
        return isSlot(slot) ? numberOf(slots[slot]) : BAD;
    }

    public int hand() {
        return numberOf(inHand);
    }

    // The document gives i the range of the slots in every act, for a SHARE finds its slot by it.
    public int cue(int act, int slot, int view, int i) {
        if (act < SHOW || act > SHARE || !isSlot(slot) || !isView(view) || !isSlot(i)) {
            return BAD;
        }
        if (!isAmong(ACT_VIEWS[act], view)) {
            return BAD;
        }
        if (cueCount >= MOST_CUES) {
            return FULL;
        }
        cues[cueCount] = new Cue(act, slot, view, i);
        cueCount++;
        return cueCount - 1;
    }

    public int strike() {
        int struck = cueCount;
        cueCount = 0;
        return struck;
    }

    public int play(int from, int to) {
        if (from < 0 || to < from || to >= cueCount) {
            return BAD;
        }
        missReason = DONE;
        missedCue = NONE;
        for (int k = from; k <= to; k++) {
            int outcome = perform(cues[k]);
            if (outcome != DONE) {
                missReason = outcome;
                missedCue = k;
                missCount++;
                return k - from;
            }
        }
        return to - from + 1;
    }

    public int miscue(int what) {
        switch (what) {
            case 0:
                return missReason;
            case 1:
                return missedCue;
            case 2:
                return missCount;
            default:
                return BAD;
        }
    }

    public long points() {
        return score;
    }

    public int is(int prop, int view) {
        Prop found = find(prop);
        if (found == null || !isView(view)) {
            return BAD;
        }
        return goesAs(found, view) ? 1 : 0;
    }

    public long worth(int prop, int view) {
        Prop found = find(prop);
        if (found == null || !isView(view) || !goesAs(found, view)) {
            return 0;
        }
        return found.worthBy(view);
    }

    public int wear(int prop) {
        Prop found = find(prop);
        if (found == null) {
            return BAD;
        }
        if (!(found instanceof Piece piece) || piece.kind == SWORD) {
            return CAST;
        }
        return piece.timesWorn;
    }

    public int at(int prop, int i) {
        Prop found = find(prop);
        if (found == null) {
            return BAD;
        }
        if (!(found instanceof Row row)) {
            return CAST;
        }
        return row.hasPlace(i) ? numberOf(row.places[i]) : INDEX;
    }

    public int count(int what) {
        switch (what) {
            case 0:
                return propCount;
            case 1:
                return cueCount;
            default:
                return BAD;
        }
    }

    private int perform(Cue cue) {
        Prop taken = slots[cue.slot];
        if (!goesAs(taken, cue.view)) {
            return CAST;
        }
        switch (cue.act) {
            case SHOW:
                return showProp(taken, cue.view);
            case WEAR:
                return wearProp(taken, cue.view);
            case TAKE:
                return takePart(taken, cue.i);
            case LAY:
                return layPart(taken, cue.view, cue.i);
            case SWAP:
                slots[cue.slot] = inHand;
                inHand = taken;
                return DONE;
            default:
                slots[cue.i] = taken;
                return DONE;
        }
    }

    private int showProp(Prop taken, int view) {
        if (taken == null) {
            return EMPTY;
        }
        score += taken.worthBy(view);
        return DONE;
    }

    private static int wearProp(Prop taken, int view) {
        if (taken == null) {
            return EMPTY;
        }
        taken.putOn(view);
        return DONE;
    }

    // A prop that goes as the view of a row is a row, so that what is no row here is NOTHING.
    private int takePart(Prop taken, int i) {
        if (!(taken instanceof Row row)) {
            return EMPTY;
        }
        if (!row.hasPlace(i)) {
            return INDEX;
        }
        inHand = row.places[i];
        row.places[i] = null;
        return DONE;
    }

    // The hand is looked at before the slot: the document sets CAST before EMPTY.
    private int layPart(Prop taken, int view, int i) {
        if (!goesAs(inHand, partView(view))) {
            return CAST;
        }
        if (!(taken instanceof Row row)) {
            return EMPTY;
        }
        if (!row.hasPlace(i)) {
            return INDEX;
        }
        if (!goesAs(inHand, partView(row.kind))) {
            return STORE;
        }
        row.places[i] = inHand;
        inHand = null;
        return DONE;
    }

    private Prop find(int prop) {
        return prop >= 0 && prop < propCount ? props[prop] : null;
    }

    private static int mostOf(int kind) {
        return isPiece(kind) ? MOST_SIZE : MOST_PLACES;
    }

    private static Prop newProp(int number, int kind, int n) {
        if (isPiece(kind)) {
            return new Piece(number, kind, n);
        }
        if (isRow(kind)) {
            return new Row(number, kind, n);
        }
        return new Numbers(number, kind, kind == PLAN ? n * PLAN_WIDTH : n);
    }

    private static int numberOf(Prop prop) {
        return prop == null ? NONE : prop.number;
    }

    private static boolean goesAs(Prop prop, int view) {
        return prop == null || isAmong(GOES_AS[prop.kind], view);
    }

    private static boolean isAmong(int views, int view) {
        return (views >> view & 1) == 1;
    }

    private static boolean isSlot(int slot) {
        return slot >= 0 && slot < SLOTS;
    }

    private static boolean isView(int view) {
        return view >= SCRIPT && view <= CARRIED;
    }

    private static boolean isPiece(int kind) {
        return kind >= COSTUME && kind <= SWORD;
    }

    private static boolean isRow(int view) {
        return view >= RAIL && view <= TRUNK_STORE;
    }

    private static int partView(int view) {
        return isRow(view) ? PART_VIEWS[view - RAIL] : NONE;
    }

    private static final class Cue {
        final int act;
        final int slot;
        final int view;
        final int i;

        Cue(int act, int slot, int view, int i) {
            this.act = act;
            this.slot = slot;
            this.view = view;
            this.i = i;
        }
    }

    private abstract static class Prop {
        final int number;
        final int kind;

        Prop(int number, int kind) {
            this.number = number;
            this.kind = kind;
        }

        /** The worth by a view that this prop goes as. */
        abstract long worthBy(int view);

        /** One wear more for this, or for what is in it, by a view that this prop goes as. */
        abstract void putOn(int view);
    }

    /** Kinds 0 to 3. Longs hold every kind's numbers; they are cut to the kind's width when put. */
    private static final class Numbers extends Prop {
        final long[] numbers;

        Numbers(int number, int kind, int length) {
            super(number, kind);
            numbers = new long[length];
        }

        /** False, and nothing is put, if there is no number i. */
        boolean put(int i, int v) {
            if (i < 0 || i >= numbers.length) {
                return false;
            }
            numbers[i] = cut(v);
            return true;
        }

        private long cut(int v) {
            switch (kind) {
                case SCRIPT:
                    return (char) v;
                case LIGHTS:
                    return (short) v;
                case PLAN:
                    return (byte) v;
                default:
                    return v;
            }
        }

        long worthBy(int view) {
            long sum = 0;
            for (int k = 0; k < numbers.length; k++) {
                sum += numbers[k];
            }
            return sum;
        }

        void putOn(int view) {
            // No view of a row of numbers is worn.
        }
    }

    /** Kinds 4 to 7: a costume, a mask, a crown or a sword. */
    private static final class Piece extends Prop {
        final int size;
        int timesWorn;

        Piece(int number, int kind, int size) {
            super(number, kind);
            this.size = size;
        }

        long worthBy(int view) {
            switch (view) {
                case COSTUME:
                    return (long) size + timesWorn;
                case MASK:
                    return 2L * timesWorn;
                case CROWN:
                    return 3L * size;
                case SWORD:
                    return size;
                case CARRIED:
                    return kind == CROWN ? size + 5L : 2L * size;
                default:
                    return 0;
            }
        }

        void putOn(int view) {
            timesWorn++;
        }
    }

    /**
     * Kinds 8 to 15: a row of pieces, or of rows of pieces. A row of rows hands its parts the view of
     * a row of pieces, and such a one hands on the view of a piece, by which a row does nothing: so
     * the calls on parts go three deep at most.
     */
    private static final class Row extends Prop {
        final Prop[] places;

        Row(int number, int kind, int length) {
            super(number, kind);
            places = new Prop[length];
        }

        boolean hasPlace(int i) {
            return i >= 0 && i < places.length;
        }

        long worthBy(int view) {
            long sum = 0;
            if (isRow(view)) {
                for (int k = 0; k < places.length; k++) {
                    Prop part = places[k];
                    sum += part == null ? 0 : part.worthBy(partView(view));
                }
            }
            return sum;
        }

        void putOn(int view) {
            if (isRow(view)) {
                for (int k = 0; k < places.length; k++) {
                    Prop part = places[k];
                    if (part != null) {
                        part.putOn(partView(view));
                    }
                }
            }
        }
    }
}
