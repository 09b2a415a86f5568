/** Objects in which each piece leaps one cell to each of the four sides, and walks in them. */
final class FourWays {
    /** Two rings of cells apart from each other: going on along both, nothing comes back in 60 moves. */
    private static final int[] RING = {0, 1, 2, 7, 12, 11, 10, 5};
    private static final int[] LONG_RING = {24, 23, 22, 21, 20, 15, 16, 17, 18, 19};
    private static final int[][] ROUND = {{0, 1}, {24, 23}, {1, 0}, {23, 24}};

    private FourWays() {
    }

    /** As many variants as holes are given, without games. */
    static VariantMill variants(int... holes) {
        VariantMill x = new VariantMill();
        x.card(VariantMill.LEAP, 1, 0, 1);
        x.card(VariantMill.LEAP, -1, 0, 1);
        x.card(VariantMill.LEAP, 0, 1, 1);
        x.card(VariantMill.LEAP, 0, -1, 1);
        for (int some : holes) {
            x.variant(some, 15);
        }
        return x;
    }

    /** One variant without holes, and a game of the players 0 and 1. */
    static VariantMill begun(int own, int other) {
        VariantMill x = variants(0);
        x.begin(0, 0, 1, own, other);
        return x;
    }

    /** Goes to and fro between the cells 0 and 1, and 24 and 23: four moves lead to the beginning. */
    static int toAndFro(VariantMill x, int game, int from, int upTo) {
        int state = VariantMill.OPEN;
        for (int move = from; move < upTo; move++) {
            state = x.move(game, ROUND[move % 4][0], ROUND[move % 4][1]);
        }
        return state;
    }

    /** Goes on from the cells 0 and 24; the state behind the last move. */
    static int walk(VariantMill x, int game, int moves) {
        int state = VariantMill.OPEN;
        for (int move = 0; move < moves; move++) {
            int[] ring = move % 2 == 0 ? RING : LONG_RING;
            int turn = move / 2;
            state = x.move(game, ring[turn % ring.length], ring[(turn + 1) % ring.length]);
        }
        return state;
    }

    /** The players 0 to 2 vote, or take that back. */
    static void threeVotes(VariantMill x, int variant) {
        for (int player = 0; player < 3; player++) {
            x.vote(player, variant);
        }
    }
}
