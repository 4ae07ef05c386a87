/** Stores that several tests begin with. */
final class Stores implements Words {
    private Stores() {
    }

    /** Props 0 .. 15, each of the kind that is its number: SIZE 10 times that, or two places. */
    static PropStore oneOfEachKind() {
        PropStore x = new PropStore();
        for (int kind = SCRIPT; kind <= TRUNK_STORE; kind++) {
            x.prop(kind, Run.isPiece(kind) ? 10 * kind : 2);
        }
        return x;
    }
}
