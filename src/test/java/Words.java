/** The document's names for its numbers, for the tests that are written sentence by sentence. */
interface Words {
    int NONE = -1, BAD = -2, FULL = -3, EMPTY = -4, CAST = -5, INDEX = -6, STORE = -7;

    /** What miscue(0) answers if there was none. */
    int DONE = 0;

    int SCRIPT = 0, LIGHTS = 1, SOUNDS = 2, PLAN = 3;
    int COSTUME = 4, MASK = 5, CROWN = 6, SWORD = 7;
    int RAIL = 8, RACK = 9, CASE = 10, TRUNK = 11, CHEST = 12;
    int WARDROBE = 13, VAULT = 14, TRUNK_STORE = 15;
    int CARRIED = 16;

    int SHOW = 0, WEAR = 1, TAKE = 2, LAY = 3, SWAP = 4, SHARE = 5;

    int LOWEST = Integer.MIN_VALUE, HIGHEST = Integer.MAX_VALUE;
}
