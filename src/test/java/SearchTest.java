/** Promises 12 and 13: value and valueByAll. */
public final class SearchTest {
    private static final Due due = new Due();

    public static void main(String[] args) {
        countsAtDepthZero();
        takesAtDepthOne();
        looksAtTheAnswerAtDepthTwo();
        winsByTakingAllOrByNoMove();
        choosesTheBestOfAllMoves();
        goesTheOtherWayForTheSecondOne();
        standsForGamesThatAreOver();
        doesNotMindRepetitionMovesAndBans();
        changesNothing();
        refusals();
        due.end();
    }

    private static VariantMill begun(int[][] cards, int holes, int own, int other) {
        VariantMill x = new VariantMill();
        for (int[] c : cards) {
            x.card(c[0], c[1], c[2], c[3]);
        }
        x.variant(holes, (1 << cards.length) - 1);
        x.begin(0, 0, 1, own, other);
        return x;
    }

    private static void values(String what, VariantMill x, int... dues) {
        for (int i = 0; i < dues.length; i++) {
            int depth = i;
            due.is("12: " + what + ", depth " + depth, dues[depth], () -> x.value(0, depth));
            due.is("13: " + what + ", depth " + depth, dues[depth], () -> x.valueByAll(0, depth));
        }
    }

    private static void countsAtDepthZero() {
        values("one each", FourWays.begun(Due.set(0), Due.set(24)), 0);
        values("six to one", FourWays.begun(Due.set(0, 1, 2, 3, 4, 5), Due.set(24)), 5);
        values("one to six", FourWays.begun(Due.set(0), Due.set(19, 20, 21, 22, 23, 24)), -5);
    }

    private static void takesAtDepthOne() {
        VariantMill x = FourWays.begun(Due.set(0), Due.set(1, 12, 24));
        values("takes one of three", x, -2, -1);
        VariantMill y = FourWays.begun(Due.set(0, 6), Due.set(12, 24));
        values("nothing to take", y, 0, 0);
    }

    private static void looksAtTheAnswerAtDepthTwo() {
        // 0 takes 1, but 2 takes it back: 2 to 2 then.
        VariantMill x = FourWays.begun(Due.set(0, 20, 21), Due.set(1, 2, 9));
        values("taken back", x, 0, 1, 0);
        // 10 has to go away or to take 11, where 12 would take it; 20 stays behind.
        VariantMill y = FourWays.begun(Due.set(10, 20), Due.set(11, 12, 4));
        values("under attack", y, -1, 0, -1);
        // Whichever of the two goes, the other one is taken.
        VariantMill z = begun(new int[][] {{0, 1, 0, 1}, {1, -1, 0, 4}}, 0, Due.set(0, 20),
                Due.set(4, 24));
        values("two under attack", z, 0, 0, -1);
    }

    private static void winsByTakingAllOrByNoMove() {
        values("takes the last one", FourWays.begun(Due.set(0), Due.set(1)), 0, 100, 100);
        VariantMill stuck = begun(new int[][] {{0, 1, 0, 1}}, 0, Due.set(0), Due.set(24, 23));
        values("the other one is stuck", stuck, -1, 100, 100);
        VariantMill self = begun(new int[][] {{0, 1, 0, 1}}, 0, Due.set(3), Due.set(20));
        values("gets stuck", self, 0, 0, -100);
        // Each cell to which it can go is a step of a piece of the other one.
        VariantMill lost = FourWays.begun(Due.set(0), Due.set(2, 6, 10));
        values("is taken wherever it goes", lost, -2, -2, -100);
    }

    private static void choosesTheBestOfAllMoves() {
        // The best move is the last one by cells: 24 takes 23, nothing takes back.
        VariantMill last = FourWays.begun(Due.set(0, 24), Due.set(23, 12, 4));
        values("the last move is the best", last, -1, 0, 0);
        // The best move is the first one by cells.
        VariantMill first = FourWays.begun(Due.set(0, 24), Due.set(1, 12, 4));
        values("the first move is the best", first, -1, 0, 0);
        // A first move that loses a piece may not cut the one behind it.
        VariantMill later = FourWays.begun(Due.set(2, 22), Due.set(8, 4, 21));
        values("a bad move is first", later, -1, 0, 0);
    }

    private static void goesTheOtherWayForTheSecondOne() {
        VariantMill x = begun(new int[][] {{0, 0, 1, 1}, {0, 1, 0, 1}}, 0, Due.set(5, 0),
                Due.set(15, 20));
        values("ahead of it", x, 0, 0, 0);
        x.move(0, 5, 10);
        // The second one goes up: 15 takes 10, and nothing takes it back at once.
        values("for the second one", x, 0, 1, 1);
        VariantMill down = begun(new int[][] {{0, 0, -1, 1}}, 0, Due.set(20), Due.set(10, 3));
        values("the second one goes down", down, -1, -1, -100);
        down.move(0, 20, 15);
        values("and takes", down, 1, 100, 100);
    }

    private static void standsForGamesThatAreOver() {
        VariantMill taken = FourWays.begun(Due.set(0), Due.set(1));
        taken.move(0, 0, 1);
        values("no pieces left", taken, -100, -100, -100);
        VariantMill stuck = begun(new int[][] {{0, 1, 0, 1}}, 0, Due.set(0), Due.set(24, 23));
        stuck.move(0, 0, 1);
        values("no move left", stuck, -100, -100, -100);
        VariantMill drawn = FourWays.begun(Due.set(0), Due.set(4, 24));
        due.is("8: drawn", VariantMill.DRAWN, () -> FourWays.toAndFro(drawn, 0, 0, 8));
        values("drawn", drawn, -1, -1, -1);
    }

    private static void doesNotMindRepetitionMovesAndBans() {
        VariantMill x = FourWays.begun(Due.set(0), Due.set(2));
        FourWays.threeVotes(x, 0);
        values("void", x, 0, 0, 0);
        VariantMill y = FourWays.begun(Due.set(0, 5, 10), Due.set(24));
        FourWays.toAndFro(y, 0, 0, 7);
        values("one move ahead of a repetition", y, -2, -2, -2);
    }

    private static void changesNothing() {
        VariantMill x = FourWays.begun(Due.set(0, 6), Due.set(7, 24));
        values("takes", x, 0, 1, 1);
        due.is("12: the game is as it was, state", VariantMill.OPEN, () -> x.state(0));
        due.is("12: the game is as it was, own", Due.set(0, 6), () -> x.pieces(0, false));
        due.is("12: the game is as it was, other", Due.set(7, 24), () -> x.pieces(0, true));
        due.is("12: the game is as it was, made", 0, () -> x.made(0));
    }

    private static void refusals() {
        VariantMill x = FourWays.begun(Due.set(0), Due.set(24));
        int[] noGames = {-1, 1, 12, Integer.MIN_VALUE, Integer.MAX_VALUE};
        int[] noDepths = {-1, 3, Integer.MIN_VALUE, Integer.MAX_VALUE};
        for (int game : noGames) {
            due.refuses("12: no game", Due.INDEX, () -> x.value(game, 1));
            due.refuses("13: no game", Due.INDEX, () -> x.valueByAll(game, 1));
            due.refuses("12: the game decides first", Due.INDEX, () -> x.value(game, 3));
            due.refuses("13: the game decides first", Due.INDEX, () -> x.valueByAll(game, -1));
        }
        for (int depth : noDepths) {
            due.refuses("12: no depth " + depth, Due.ARGUMENT, () -> x.value(0, depth));
            due.refuses("13: no depth " + depth, Due.ARGUMENT, () -> x.valueByAll(0, depth));
        }
        VariantMill over = FourWays.begun(Due.set(0), Due.set(1));
        over.move(0, 0, 1);
        due.refuses("12: no depth of a game that is over", Due.ARGUMENT, () -> over.value(0, 3));
    }
}
