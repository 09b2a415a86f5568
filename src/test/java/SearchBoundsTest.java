/** Promises 12 and 13: one test for each sentence that names a bound; the sentence stands above it. */
public final class SearchBoundsTest {
    private static final Due due = new Due();
    private static final int[] FAR = {Integer.MIN_VALUE, Integer.MIN_VALUE + 1, Integer.MAX_VALUE,
        -256, -255, 256, 257, 1 << 30, 1 << 31 | 1};

    public static void main(String[] args) {
        depths();
        games();
        gameAheadOfDepth();
        lostWithoutPieces();
        lostWithoutMove();
        countsAtDepthZero();
        noMoveAheadOfTheCount();
        noMoveAtTheEndOfTheDepth();
        wonAtDepthOneAndTwo();
        leastAndGreatest();
        greatestOfAllMoves();
        piecesInTheWay();
        forTheOneToMove();
        repetitionsDoNotMatter();
        movesMadeDoNotMatter();
        bansDoNotMatter();
        asItStandsByItsOwnCards();
        changesNothing();
        fullBoards();
        due.end();
    }

    private static VariantMill byLeaps(int own, int other, int[]... steps) {
        VariantMill x = new VariantMill();
        for (int[] step : steps) {
            x.card(VariantMill.LEAP, step[0], step[1], 1);
        }
        x.variant(0, (1 << steps.length) - 1);
        x.begin(0, 0, 1, own, other);
        return x;
    }

    private static void valueIs(String what, VariantMill x, int game, int depth, int answer) {
        due.is("12: " + what + ", depth " + depth, answer, () -> x.value(game, depth));
        due.is("13: " + what + ", depth " + depth, answer, () -> x.valueByAll(game, depth));
    }

    private static void valuesAre(String what, VariantMill x, int... answers) {
        for (int depth = 0; depth < answers.length; depth++) {
            valueIs(what, x, 0, depth, answers[depth]);
        }
    }

    private static void refused(String what, Class<? extends RuntimeException> why, VariantMill x,
            int game, int depth) {
        due.refuses("12: " + what, why, () -> x.value(game, depth));
        due.refuses("13: " + what, why, () -> x.valueByAll(game, depth));
    }

    /** "depth: 0 to 2", "IllegalArgumentException if depth is out of range". */
    private static void depths() {
        VariantMill x = FourWays.begun(Due.set(0), Due.set(24));
        refused("the depth -1", Due.ARGUMENT, x, 0, -1);
        valueIs("in range", x, 0, 0, 0);
        valueIs("in range", x, 0, 1, 0);
        valueIs("in range", x, 0, 2, 0);
        refused("the depth 3", Due.ARGUMENT, x, 0, 3);
        for (int far : FAR) {
            refused("the depth " + far, Due.ARGUMENT, x, 0, far);
        }
        VariantMill over = FourWays.begun(Due.set(0), Due.set(1));
        over.move(0, 0, 1);
        refused("the depth -1 of a game that is over", Due.ARGUMENT, over, 0, -1);
        refused("the depth 3 of a game that is over", Due.ARGUMENT, over, 0, 3);
    }

    /** "IndexOutOfBoundsException if there is no such game", of none, one and twelve. */
    private static void games() {
        int[] counts = {0, 1, 12};
        for (int count : counts) {
            VariantMill x = FourWays.variants(0);
            for (int i = 0; i < count; i++) {
                x.begin(0, 0, 1, Due.set(0), Due.set(24, 12));
            }
            refused("no game -1", Due.INDEX, x, -1, 0);
            refused("no game " + count, Due.INDEX, x, count, 0);
            refused("no game 12", Due.INDEX, x, 12, 0);
            for (int far : FAR) {
                refused("no game " + far, Due.INDEX, x, far, 0);
            }
            for (int game = 0; game < count; game += 11) {
                valueIs("the game " + game, x, game, 0, -1);
            }
        }
    }

    /** "The first line of a method's throws clause that applies decides". */
    private static void gameAheadOfDepth() {
        VariantMill x = FourWays.begun(Due.set(0), Due.set(24));
        int[] noGames = {-1, 1, 12, Integer.MIN_VALUE, Integer.MAX_VALUE};
        int[] noDepths = {-1, 3, Integer.MIN_VALUE, Integer.MAX_VALUE};
        for (int game : noGames) {
            for (int depth : noDepths) {
                refused("no game " + game + ", no depth " + depth, Due.INDEX, x, game, depth);
            }
        }
    }

    /** "-100, if that one has no pieces", at each depth. */
    private static void lostWithoutPieces() {
        VariantMill first = FourWays.begun(Due.set(0), Due.set(1));
        first.move(0, 0, 1);
        valuesAre("the second one has no pieces", first, -100, -100, -100);
        VariantMill second = FourWays.begun(Due.set(0), Due.set(2));
        second.move(0, 0, 1);
        second.move(0, 2, 1);
        valuesAre("the first one has no pieces", second, -100, -100, -100);
    }

    /** "or no move", at each depth, however many pieces. */
    private static void lostWithoutMove() {
        VariantMill x = byLeaps(Due.set(0), Due.set(4, 9, 14, 19, 24), new int[] {1, 0});
        x.move(0, 0, 1);
        valuesAre("five at the edge, no move", x, -100, -100, -100);
    }

    /** "otherwise at the depth 0 the number of own pieces less that of the other one's". */
    private static void countsAtDepthZero() {
        for (int own = 1; own <= 6; own++) {
            for (int other = 1; other <= 6; other++) {
                VariantMill x = FourWays.begun((1 << own) - 1, (1 << other) - 1 << 19);
                valueIs(own + " to " + other, x, 0, 0, own - other);
                x.move(0, own - 1, own - 1 + 5);
                valueIs(own + " to " + other + ", second one", x, 0, 0, other - own);
            }
        }
    }

    /** "-100, if .. no move; otherwise at the depth 0": no move goes ahead of the count. */
    private static void noMoveAheadOfTheCount() {
        VariantMill x = byLeaps(Due.set(0), Due.set(4, 9), new int[] {1, 0});
        valueIs("ahead of it the count", x, 0, 0, -1);
        x.move(0, 0, 1);
        valueIs("no move, two to one", x, 0, 0, -100);
    }

    /** The same at the end of the depth: one who can leave the other one no move wins. */
    private static void noMoveAtTheEndOfTheDepth() {
        VariantMill one = byLeaps(Due.set(0), Due.set(4, 9), new int[] {1, 0});
        valuesAre("leaves no move", one, -1, 100, 100);
        VariantMill two = byLeaps(Due.set(3), Due.set(20), new int[] {1, 0});
        valuesAre("has no move the next time", two, 0, 0, -100);
    }

    /** "the value behind the move at one depth less, for the other one, with the other sign". */
    private static void wonAtDepthOneAndTwo() {
        valuesAre("takes the only one", FourWays.begun(Due.set(0), Due.set(1)), 0, 100, 100);
        valuesAre("is taken wherever it goes",
                FourWays.begun(Due.set(0), Due.set(2, 6, 10)), -2, -2, -100);
        valuesAre("takes one, and loses one",
                FourWays.begun(Due.set(0, 20, 21), Due.set(1, 2, 9)), 0, 1, 0);
    }

    /** "Returns -100 to 100": both, and the counts -5 and 5 next to them. */
    private static void leastAndGreatest() {
        int six = Due.set(0, 1, 2, 3, 4, 5);
        valuesAre("six to one", FourWays.begun(six, Due.set(24)), 5, 5, 5);
        valuesAre("one to six", FourWays.begun(Due.set(24), six), -5, -5, -5);
        valuesAre("takes the only one, six to one", FourWays.begun(six, Due.set(10)), 5, 100, 100);
        VariantMill lost = FourWays.begun(six, Due.set(10));
        lost.move(0, 5, 10);
        valuesAre("has lost to six", lost, -100, -100, -100);
    }

    /** "the greatest one, over all moves": by the first cell, by the last, to the first, to the last. */
    private static void greatestOfAllMoves() {
        for (int piece = 0; piece < 25; piece++) {
            for (int side = 0; side < 4; side++) {
                int x = piece % 5 + (side == 0 ? 1 : side == 1 ? -1 : 0);
                int y = piece / 5 + (side == 2 ? 1 : side == 3 ? -1 : 0);
                if (x < 0 || x > 4 || y < 0 || y > 4) {
                    continue;
                }
                int taken = 5 * y + x;
                int away = (piece + 12) % 25 == taken ? (piece + 13) % 25 : (piece + 12) % 25;
                VariantMill one = FourWays.begun(1 << piece, 1 << taken);
                valuesAre("only " + piece + " takes " + taken, one, 0, 100, 100);
                VariantMill two = FourWays.begun(1 << piece, 1 << taken | 1 << away);
                valueIs("only " + piece + " takes " + taken + " of two", two, 0, 1, 0);
            }
        }
    }

    /** "over all moves": none past a piece of the other one but a HOP's, at the first depth or the last. */
    private static void piecesInTheWay() {
        VariantMill slide = new VariantMill();
        slide.card(VariantMill.SLIDE, 0, 1, 4);
        slide.variant(0, 1);
        slide.begin(0, 0, 1, Due.set(0, 4), Due.set(10, 20));
        // Were the piece on 10 not in the way, 0 would take 20, and nothing could take it back.
        valuesAre("a SLIDE ends where it takes", slide, 0, 1, 0);
        VariantMill hop = new VariantMill();
        hop.card(VariantMill.HOP, 1, 0, 4);
        hop.variant(0, 1);
        hop.begin(0, 0, 1, Due.set(0), Due.set(1));
        valuesAre("a HOP has moves by the other one's piece", hop, 0, 0, 0);
        hop.move(0, 0, 2);
        hop.move(0, 1, 3);
        valuesAre("the last HOP of the row", hop, 0, 100, 100);
    }

    /** "for the one to move": the rows of steps of the second one are the other way. */
    private static void forTheOneToMove() {
        VariantMill x = byLeaps(Due.set(2), Due.set(22, 17, 11), new int[] {0, 1});
        valuesAre("the first one goes down", x, -2, -2, -2);
        x.move(0, 2, 7);
        valuesAre("the second one goes up", x, 2, 2, 2);
        x.move(0, 17, 12);
        valuesAre("the first one takes", x, -2, -1, -1);
        x.move(0, 7, 12);
        valuesAre("the second one has two to one", x, 1, 1, 1);
        x.move(0, 22, 17);
        valuesAre("the first one takes again", x, -1, 0, 0);
    }

    /** "What was there before .. do not matter": one move ahead of the third time, and behind it. */
    private static void repetitionsDoNotMatter() {
        VariantMill x = FourWays.begun(Due.set(0, 10), Due.set(24));
        for (int i = 0; i < 7; i++) {
            FourWays.toAndFro(x, 0, i, i + 1);
            int sign = i % 2 == 0 ? -1 : 1;
            valuesAre("behind the move " + (i + 1), x, sign, sign, sign);
        }
        due.is("8: the third time", VariantMill.DRAWN, () -> FourWays.toAndFro(x, 0, 7, 8));
        valuesAre("behind the third time", x, 1, 1, 1);
    }

    /** "and how many moves were made, do not matter": behind 59 and 60 moves. */
    private static void movesMadeDoNotMatter() {
        VariantMill x = FourWays.begun(Due.set(0, 3), Due.set(24));
        FourWays.walk(x, 0, 58);
        valuesAre("behind 58 moves", x, 1, 1, 1);
        x.move(0, 11, 10);
        valuesAre("behind 59 moves", x, -1, -1, -1);
        due.is("8: the 60th move", VariantMill.DRAWN, () -> x.move(0, 19, 24));
        valuesAre("behind 60 moves", x, 1, 1, 1);
        VariantMill z = FourWays.begun(Due.set(0), Due.set(24, 14));
        FourWays.walk(z, 0, 58);
        z.move(0, 11, 12);
        z.move(0, 14, 13);
        due.is("9: drawn with a piece to take", VariantMill.DRAWN, () -> z.state(0));
        valuesAre("it can still take", z, -1, 0, 0);
    }

    /** "Returns the value of a game as it stands", void or not. */
    private static void bansDoNotMatter() {
        VariantMill x = FourWays.begun(Due.set(0, 6), Due.set(7, 24));
        valuesAre("not void", x, 0, 1, 1);
        FourWays.threeVotes(x, 0);
        valuesAre("void", x, 0, 1, 1);
    }

    /** "with the cards that this has when the game begins", and with its holes. */
    private static void asItStandsByItsOwnCards() {
        VariantMill x = new VariantMill();
        x.card(VariantMill.LEAP, 1, 0, 1);
        x.card(VariantMill.LEAP, 0, 1, 1);
        x.variant(Due.set(6), 1);
        x.begin(0, 0, 1, Due.set(0), Due.set(1));
        valuesAre("its card takes", x, 0, 100, 100);
        x.setCards(0, 2);
        valuesAre("its card still takes", x, 0, 100, 100);
        x.begin(0, 0, 1, Due.set(0), Due.set(1));
        valueIs("of the new game", x, 1, 0, 0);
        valueIs("the other one is stuck at its edge", x, 1, 1, 100);
        x.begin(0, 0, 1, Due.set(0, 1), Due.set(24));
        valueIs("not into the hole", x, 2, 2, 1);
    }

    /** A search leaves the game as it stands. */
    private static void changesNothing() {
        VariantMill x = FourWays.begun(Due.set(0, 6), Due.set(7, 24));
        for (int i = 0; i < 3; i++) {
            valuesAre("again and again", x, 0, 1, 1);
        }
        due.is("9: as it stood", VariantMill.OPEN, () -> x.state(0));
        due.is("10: as it stood", Due.set(0, 6), () -> x.pieces(0, false));
        due.is("10: as it stood", Due.set(7, 24), () -> x.pieces(0, true));
        due.is("11: as it stood", 0, () -> x.made(0));
        due.holds("6: the first one is still to move", true, () -> x.can(0, 6, 7));
    }

    /** "Returns the same, found from all branches": eight cards and twelve pieces. */
    private static void fullBoards() {
        for (int turn = 0; turn < 19; turn++) {
            VariantMill x = new VariantMill();
            int[][] cards = {{1, 1, 0, 4}, {1, -1, 0, 4}, {1, 0, 1, 4}, {1, 0, -1, 4},
                {1, 1, 1, 4}, {1, -1, 1, 4}, {2, 1, -1, 4}, {0, 2, 1, 1}};
            for (int[] c : cards) {
                x.card(c[0], c[1], c[2], c[3]);
            }
            x.variant(0, 255);
            int own = Due.set(0, 3, 6, 9, 12, 15);
            int other = (1 << 5) - 1 << turn & ~own | Due.set(24);
            due.is("5: begins, turn " + turn, 0, () -> x.begin(0, 0, 1, own, other));
            for (int depth = 0; depth <= 2; depth++) {
                int d = depth;
                due.is("13: as value, turn " + turn + ", depth " + d, x.value(0, d),
                        () -> x.valueByAll(0, d));
            }
        }
    }
}
