/**
 * The document's store over Java's own classes and arrays: what goes as what, and why a cue is a
 * miscue, is here what the machine itself says of casts, nulls, indices and stores into arrays.
 */
final class ArrayModel {
    private static final int NONE = -1, BAD = -2, FULL = -3, EMPTY = -4, CAST = -5, INDEX = -6, STORE = -7;

    interface Carried { }

    static class Costume {
        int size;
        int wear;
    }

    static final class Mask extends Costume { }

    static final class Crown extends Costume implements Carried { }

    static final class Sword implements Carried {
        int size;
    }

    private static final Class<?>[] VIEWS = {
        char[].class, short[].class, long[].class, byte[][].class,
        Costume.class, Mask.class, Crown.class, Sword.class,
        Costume[].class, Mask[].class, Crown[].class, Carried[].class, Sword[].class,
        Costume[][].class, Crown[][].class, Carried[][].class, Carried.class,
    };

    private final java.util.ArrayList<Object> props = new java.util.ArrayList<>();
    private final java.util.ArrayList<int[]> cues = new java.util.ArrayList<>();
    private final Object[] slots = new Object[10];
    private Object hand;
    private long points;
    private int why;
    private int where = NONE;
    private int often;

    private static boolean outside(int value, int least, int most) {
        return value < least || value > most;
    }

    private boolean unknown(int prop) {
        return outside(prop, 0, props.size() - 1);
    }

    private int numberOf(Object prop) {
        for (int k = 0; k < props.size(); k++) {
            if (props.get(k) == prop) {
                return k;
            }
        }
        return NONE;
    }

    int prop(int kind, int n) {
        boolean piece = kind >= 4 && kind <= 7;
        if (outside(kind, 0, 15) || outside(n, 0, piece ? 100 : 5)) {
            return BAD;
        }
        if (props.size() == 50) {
            return FULL;
        }
        props.add(piece ? piece(kind, n) : row(kind, n));
        return props.size() - 1;
    }

    private static Object piece(int kind, int size) {
        if (kind == 7) {
            Sword sword = new Sword();
            sword.size = size;
            return sword;
        }
        Costume costume = kind == 4 ? new Costume() : kind == 5 ? new Mask() : new Crown();
        costume.size = size;
        return costume;
    }

    private static Object row(int kind, int n) {
        switch (kind) {
            case 3: return new byte[n][3];
            default: return java.lang.reflect.Array.newInstance(VIEWS[kind].getComponentType(), n);
        }
    }

    int set(int prop, int i, int v) {
        if (unknown(prop)) {
            return BAD;
        }
        Object x = props.get(prop);
        try {
            if (x instanceof char[] chars) {
                chars[i] = (char) v;
            } else if (x instanceof short[] shorts) {
                shorts[i] = (short) v;
            } else if (x instanceof long[] longs) {
                longs[i] = v;
            } else {
                ((byte[][]) x)[Math.floorDiv(i, 3)][Math.floorMod(i, 3)] = (byte) v;
            }
            return 1;
        } catch (ClassCastException e) {
            return CAST;
        } catch (ArrayIndexOutOfBoundsException e) {
            return INDEX;
        }
    }

    int slot(int slot, int prop) {
        if (outside(slot, 0, 9) || unknown(prop) && prop != NONE) {
            return BAD;
        }
        int before = numberOf(slots[slot]);
        slots[slot] = prop == NONE ? null : props.get(prop);
        return before;
    }

    int held(int slot) {
        return outside(slot, 0, 9) ? BAD : numberOf(slots[slot]);
    }

    int hand() {
        return numberOf(hand);
    }

    int cue(int act, int slot, int view, int i) {
        if (outside(act, 0, 5) || outside(slot, 0, 9) || outside(view, 0, 16) || outside(i, 0, 9)) {
            return BAD;
        }
        boolean worn = !outside(view, 4, 6) || !outside(view, 8, 10) || !outside(view, 13, 14);
        if (act == 1 && !worn || (act == 2 || act == 3) && outside(view, 8, 15)) {
            return BAD;
        }
        if (cues.size() == 30) {
            return FULL;
        }
        cues.add(new int[] {act, slot, view, i});
        return cues.size() - 1;
    }

    int strike() {
        int were = cues.size();
        cues.clear();
        return were;
    }

    int play(int from, int to) {
        if (outside(from, 0, cues.size() - 1) || outside(to, from, cues.size() - 1)) {
            return BAD;
        }
        why = 0;
        where = NONE;
        int done = 0;
        while (from + done <= to && why == 0) {
            why = reason(cues.get(from + done));
            if (why == 0) {
                done++;
            } else {
                where = from + done;
                often++;
            }
        }
        return done;
    }

    private int reason(int[] cue) {
        try {
            perform(cue[0], cue[1], cue[2], cue[3]);
            return 0;
        } catch (ClassCastException e) {
            return CAST;
        } catch (NullPointerException e) {
            return EMPTY;
        } catch (ArrayIndexOutOfBoundsException e) {
            return INDEX;
        } catch (ArrayStoreException e) {
            return STORE;
        }
    }

    private void perform(int act, int slot, int view, int i) {
        Object x = VIEWS[view].cast(slots[slot]);
        if (act == 0) {
            points += worthOf(java.util.Objects.requireNonNull(x), view);
        } else if (act == 1) {
            wearOut(java.util.Objects.requireNonNull(x));
        } else if (act == 2) {
            Object part = ((Object[]) x)[i];
            ((Object[]) x)[i] = null;
            hand = part;
        } else if (act == 3) {
            ((Object[]) x)[i] = VIEWS[view].getComponentType().cast(hand);
            hand = null;
        } else if (act == 4) {
            slots[slot] = hand;
            hand = x;
        } else {
            slots[i] = x;
        }
    }

    private static void wearOut(Object x) {
        if (x instanceof Costume costume) {
            costume.wear++;
        } else if (x instanceof Object[] row) {
            for (Object part : row) {
                wearOut(part);
            }
        }
    }

    private static long worthOf(Object x, int view) {
        long sum = 0;
        switch (view) {
            case 0:
                for (char c : (char[]) x) {
                    sum += c;
                }
                return sum;
            case 1:
                for (short s : (short[]) x) {
                    sum += s;
                }
                return sum;
            case 2:
                for (long l : (long[]) x) {
                    sum += l;
                }
                return sum;
            case 3:
                for (byte[] bytes : (byte[][]) x) {
                    sum += bytes[0] + bytes[1] + bytes[2];
                }
                return sum;
            case 4: return ((Costume) x).size + ((Costume) x).wear;
            case 5: return ((Mask) x).wear * 2;
            case 6: return ((Crown) x).size * 3;
            case 7: return ((Sword) x).size;
            case 16: return x instanceof Sword sword ? sword.size * 2 : ((Crown) x).size + 5;
            default:
                for (Object part : (Object[]) x) {
                    sum += part == null ? 0 : worthOf(part, viewOfParts(view));
                }
                return sum;
        }
    }

    private static int viewOfParts(int view) {
        for (int k = 0; k < VIEWS.length; k++) {
            if (VIEWS[k] == VIEWS[view].getComponentType()) {
                return k;
            }
        }
        return NONE;
    }

    int miscue(int what) {
        return what == 0 ? why : what == 1 ? where : what == 2 ? often : BAD;
    }

    long points() {
        return points;
    }

    int is(int prop, int view) {
        if (unknown(prop) || outside(view, 0, 16)) {
            return BAD;
        }
        return VIEWS[view].isInstance(props.get(prop)) ? 1 : 0;
    }

    long worth(int prop, int view) {
        return is(prop, view) == 1 ? worthOf(props.get(prop), view) : 0;
    }

    int wear(int prop) {
        if (unknown(prop)) {
            return BAD;
        }
        return props.get(prop) instanceof Costume costume ? costume.wear : CAST;
    }

    int at(int prop, int i) {
        if (unknown(prop)) {
            return BAD;
        }
        if (!(props.get(prop) instanceof Object[] row) || row instanceof byte[][]) {
            return CAST;
        }
        return outside(i, 0, row.length - 1) ? INDEX : numberOf(row[i]);
    }

    int count(int what) {
        return what == 0 ? props.size() : what == 1 ? cues.size() : BAD;
    }
}
