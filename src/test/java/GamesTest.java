/** Promises 5 to 11: begin, can, canByAll, move, state, pieces, made. */
public final class GamesTest {
    private static final Due due = new Due();
    private static final int[] NO_CELLS = {-1, 25, Integer.MIN_VALUE, Integer.MAX_VALUE};
    private static final int[] NO_GAMES = {-1, 1, 12, Integer.MIN_VALUE, Integer.MAX_VALUE};

    public static void main(String[] args) {
        beginNumbersAndSets();
        beginRefusesIndexes();
        beginRefusesArguments();
        beginRefusesStates();
        beginRefusalsInOrder();
        noSuchGameOrCell();
        canOnlyWhileOpen();
        canByAnyCard();
        moveTakesAndCounts();
        moveRefusesStates();
        refusedMovesChangeNothing();
        wonByTakingAll();
        wonByNoMove();
        wonBySecond();
        endlessAtTheThirdTime();
        threeTimesNeedTheSameOneToMove();
        threeTimesNeedTheSamePieces();
        drawnAtSixtyMoves();
        winAtSixtyMoves();
        endlessAtSixtyMoves();
        gamesStandApart();
        due.end();
    }

    private static void stands(String what, VariantMill x, int state, int first, int second,
            int made) {
        due.is(what + ", state", state, () -> x.state(0));
        due.is(what + ", the first one's pieces", first, () -> x.pieces(0, false));
        due.is(what + ", the second one's pieces", second, () -> x.pieces(0, true));
        due.is(what + ", moves made", made, () -> x.made(0));
    }

    private static void goes(String what, VariantMill x, int from, int to, int state) {
        due.is(what + " " + from + " to " + to, state, () -> x.move(0, from, to));
    }

    private static void beginNumbersAndSets() {
        VariantMill x = FourWays.variants(0);
        due.is("5: one piece each", 0, () -> x.begin(0, 0, 4, Due.set(0), Due.set(24)));
        stands("5: one piece each", x, VariantMill.OPEN, 1, 1 << 24, 0);
        int six = Due.set(0, 1, 2, 3, 4, 5);
        int sixMore = Due.set(19, 20, 21, 22, 23, 24);
        due.is("5: six pieces each", 1, () -> x.begin(0, 4, 0, six, sixMore));
        due.is("5: six pieces of the first one", six, () -> x.pieces(1, false));
        due.is("5: six pieces of the second one", sixMore, () -> x.pieces(1, true));
        for (int i = 2; i < 12; i++) {
            int number = i;
            due.is("5: the same again", number, () -> x.begin(0, 0, 1, six, sixMore));
        }
        due.is("5: the last one is open", VariantMill.OPEN, () -> x.state(11));
        due.refuses("5: a thirteenth game", Due.STATE, () -> x.begin(0, 0, 1, six, sixMore));
        due.refuses("5: a thirteenth game is not there", Due.INDEX, () -> x.state(12));
        VariantMill y = FourWays.begun(Due.set(0), Due.set(24));
        y.begin(0, 2, 3, Due.set(7), Due.set(8));
        due.is("5: a second one without a move may begin", 2,
                () -> y.begin(0, 0, 1, Due.set(0), Due.set(4)));
    }

    private static void beginRefusesIndexes() {
        VariantMill x = FourWays.variants(0);
        for (int none : NO_GAMES) {
            due.refuses("5: no variant " + none, Due.INDEX, () -> x.begin(none, 0, 1, 1, 2));
        }
        int[] noPlayers = {-1, 5, Integer.MIN_VALUE, Integer.MAX_VALUE};
        for (int none : noPlayers) {
            due.refuses("5: no first one " + none, Due.INDEX, () -> x.begin(0, none, 1, 1, 2));
            due.refuses("5: no second one " + none, Due.INDEX, () -> x.begin(0, 0, none, 1, 2));
            due.refuses("5: neither", Due.INDEX, () -> x.begin(0, none, none, 1, 2));
        }
        due.refuses("5: no game came of it", Due.INDEX, () -> x.state(0));
        due.is("5: no number was taken", 0, () -> x.begin(0, 0, 1, 1, 2));
    }

    private static void beginRefusesArguments() {
        VariantMill x = FourWays.variants(Due.set(12));
        int seven = Due.set(0, 1, 2, 3, 4, 5, 6);
        int[] badSets = {0, seven, Due.set(12), Due.set(11, 12), 1 << 25, 1 << 25 | 1, 1 << 31,
            1 << 31 | 1, -1, Integer.MAX_VALUE, 33554431};
        for (int bad : badSets) {
            due.refuses("5: own " + bad, Due.ARGUMENT, () -> x.begin(0, 0, 1, bad, 1 << 24));
            due.refuses("5: other " + bad, Due.ARGUMENT, () -> x.begin(0, 0, 1, 1 << 24, bad));
        }
        due.refuses("5: one player", Due.ARGUMENT, () -> x.begin(0, 3, 3, 1, 2));
        due.refuses("5: a common cell", Due.ARGUMENT, () -> x.begin(0, 0, 1, 3, 6));
        due.refuses("5: the same cells", Due.ARGUMENT, () -> x.begin(0, 0, 1, 1, 1));
        due.refuses("5: no game came of it", Due.INDEX, () -> x.state(0));
        due.is("5: no number was taken", 0, () -> x.begin(0, 0, 1, 1, 2));
    }

    private static void beginRefusesStates() {
        VariantMill x = new VariantMill();
        x.card(VariantMill.LEAP, 1, 0, 1);
        x.variant(Due.set(7), 1);
        due.refuses("5: no move off the board", Due.STATE, () -> x.begin(0, 0, 1, 1 << 4, 1));
        due.refuses("5: no move into a hole", Due.STATE, () -> x.begin(0, 0, 1, 1 << 6, 1));
        due.refuses("5: no move onto one's own", Due.STATE,
                () -> x.begin(0, 0, 1, Due.set(3, 4), 1));
        due.is("5: one move is enough", 0, () -> x.begin(0, 0, 1, Due.set(4, 3, 5), 1));
        x.vote(0, 0);
        x.vote(1, 0);
        due.is("5: two votes are no ban", 1, () -> x.begin(0, 0, 1, 2, 1));
        x.vote(4, 0);
        due.refuses("5: banned", Due.STATE, () -> x.begin(0, 0, 1, 2, 1));
        x.vote(0, 0);
        due.is("5: no longer banned", 2, () -> x.begin(0, 0, 1, 2, 1));
    }

    private static void beginRefusalsInOrder() {
        VariantMill x = FourWays.variants(0);
        due.refuses("5: index ahead of argument", Due.INDEX, () -> x.begin(1, 0, 0, 0, 0));
        due.refuses("5: index ahead of argument, player", Due.INDEX, () -> x.begin(0, 5, 5, 0, 0));
        x.vote(0, 0);
        x.vote(1, 0);
        x.vote(2, 0);
        due.refuses("5: index ahead of ban", Due.INDEX, () -> x.begin(0, 0, 5, 1, 2));
        due.refuses("5: argument ahead of ban", Due.ARGUMENT, () -> x.begin(0, 0, 0, 1, 2));
        x.vote(2, 0);
        for (int i = 0; i < 12; i++) {
            x.begin(0, 0, 1, 1, 2);
        }
        due.refuses("5: argument ahead of 12 games", Due.ARGUMENT, () -> x.begin(0, 0, 1, 3, 2));
        due.refuses("5: index ahead of 12 games", Due.INDEX, () -> x.begin(2, 0, 1, 1, 2));
        due.refuses("5: 12 games", Due.STATE, () -> x.begin(0, 0, 1, 1, 2));
    }

    private static void noSuchGameOrCell() {
        VariantMill x = FourWays.begun(Due.set(0), Due.set(24));
        for (int none : NO_GAMES) {
            due.refuses("6: no game", Due.INDEX, () -> x.can(none, 0, 1) ? 1 : 0);
            due.refuses("7: no game", Due.INDEX, () -> x.canByAll(none, 0, 1) ? 1 : 0);
            due.refuses("8: no game", Due.INDEX, () -> x.move(none, 0, 1));
            due.refuses("9: no game", Due.INDEX, () -> x.state(none));
            due.refuses("10: no game", Due.INDEX, () -> x.pieces(none, true));
            due.refuses("10: no game, first one", Due.INDEX, () -> x.pieces(none, false));
            due.refuses("11: no game", Due.INDEX, () -> x.made(none));
        }
        for (int none : NO_CELLS) {
            due.refuses("6: no cell from", Due.INDEX, () -> x.can(0, none, 1) ? 1 : 0);
            due.refuses("6: no cell to", Due.INDEX, () -> x.can(0, 0, none) ? 1 : 0);
            due.refuses("7: no cell from", Due.INDEX, () -> x.canByAll(0, none, 1) ? 1 : 0);
            due.refuses("7: no cell to", Due.INDEX, () -> x.canByAll(0, 0, none) ? 1 : 0);
            due.refuses("8: no cell from", Due.INDEX, () -> x.move(0, none, 1));
            due.refuses("8: no cell to", Due.INDEX, () -> x.move(0, 0, none));
        }
        stands("8: nothing changed", x, VariantMill.OPEN, 1, 1 << 24, 0);
    }

    private static void canOnlyWhileOpen() {
        VariantMill x = FourWays.begun(Due.set(0, 12), Due.set(1));
        due.holds("6: while it is open", true, () -> x.can(0, 12, 11));
        due.holds("7: while it is open", true, () -> x.canByAll(0, 12, 11));
        due.holds("6: not from a cell to itself", false, () -> x.can(0, 12, 12));
        due.holds("7: not from a cell to itself", false, () -> x.canByAll(0, 12, 12));
        due.holds("6: not the one who waits", false, () -> x.can(0, 1, 2));
        due.holds("7: not the one who waits", false, () -> x.canByAll(0, 1, 2));
        due.holds("6: not from an empty cell", false, () -> x.can(0, 20, 21));
        due.holds("7: not from an empty cell", false, () -> x.canByAll(0, 20, 21));
        FourWays.threeVotes(x, 0);
        due.holds("6: void but open", true, () -> x.can(0, 12, 11));
        due.holds("7: void but open", true, () -> x.canByAll(0, 12, 11));
        FourWays.threeVotes(x, 0);
        goes("8: takes the last one", x, 0, 1, VariantMill.FIRST_WON);
        due.holds("6: not when it is over", false, () -> x.can(0, 12, 11));
        due.holds("7: not when it is over", false, () -> x.canByAll(0, 12, 11));
        due.refuses("6: still no such cell", Due.INDEX, () -> x.can(0, 12, 25) ? 1 : 0);
        due.refuses("7: still no such cell", Due.INDEX, () -> x.canByAll(0, 25, 12) ? 1 : 0);
        VariantMill y = FourWays.begun(Due.set(0), Due.set(24));
        FourWays.toAndFro(y, 0, 0, 8);
        due.holds("6: not when it is drawn", false, () -> y.can(0, 0, 1));
        due.holds("7: not when it is drawn", false, () -> y.canByAll(0, 0, 1));
    }

    private static void canByAnyCard() {
        VariantMill x = new VariantMill();
        x.card(VariantMill.SLIDE, 1, 0, 4);
        x.card(VariantMill.HOP, 1, 0, 4);
        x.card(VariantMill.LEAP, 2, 2, 1);
        x.variant(0, 7);
        x.variant(0, 5);
        x.begin(0, 0, 1, Due.set(0), Due.set(2));
        x.begin(1, 0, 1, Due.set(0), Due.set(2));
        int[] ends = {1, 2, 3, 12};
        for (int to = 0; to < 25; to++) {
            int cell = to;
            boolean isEnd = java.util.Arrays.binarySearch(ends, cell) >= 0;
            due.holds("6: by any card to " + cell, isEnd, () -> x.can(0, 0, cell));
            due.holds("7: by any card to " + cell, isEnd, () -> x.canByAll(0, 0, cell));
            boolean isEndWithoutHop = isEnd && cell != 3;
            due.holds("6: without the HOP to " + cell, isEndWithoutHop, () -> x.can(1, 0, cell));
            due.holds("7: without the HOP to " + cell, isEndWithoutHop,
                    () -> x.canByAll(1, 0, cell));
        }
    }

    private static void moveTakesAndCounts() {
        VariantMill x = FourWays.begun(Due.set(0, 6), Due.set(7, 24));
        stands("8: ahead of it", x, VariantMill.OPEN, Due.set(0, 6), Due.set(7, 24), 0);
        goes("8: takes", x, 6, 7, VariantMill.OPEN);
        stands("8: behind it", x, VariantMill.OPEN, Due.set(0, 7), Due.set(24), 1);
        due.holds("8: now the second one moves", true, () -> x.can(0, 24, 23));
        due.holds("8: and not the first one", false, () -> x.can(0, 0, 1));
        goes("8: the second one", x, 24, 19, VariantMill.OPEN);
        stands("8: behind two", x, VariantMill.OPEN, Due.set(0, 7), Due.set(19), 2);
        due.holds("8: the first one again", true, () -> x.can(0, 0, 1));
    }

    private static void moveRefusesStates() {
        VariantMill x = FourWays.begun(Due.set(0, 1), Due.set(24));
        int[][] bad = {{0, 1}, {0, 0}, {0, 6}, {0, 2}, {24, 23}, {5, 6}, {4, 5}};
        for (int[] step : bad) {
            due.refuses("8: no card says so", Due.STATE, () -> x.move(0, step[0], step[1]));
        }
        FourWays.threeVotes(x, 0);
        due.refuses("8: void", Due.STATE, () -> x.move(0, 0, 5));
        due.refuses("8: index ahead of void", Due.INDEX, () -> x.move(0, 0, 25));
        due.is("9: void or not", VariantMill.OPEN, () -> x.state(0));
        due.is("10: void or not", Due.set(0, 1), () -> x.pieces(0, false));
        due.is("11: void or not", 0, () -> x.made(0));
        FourWays.threeVotes(x, 0);
        goes("8: no longer void", x, 0, 5, VariantMill.OPEN);
        VariantMill y = FourWays.begun(Due.set(0, 12), Due.set(1));
        y.move(0, 0, 1);
        due.refuses("8: not open", Due.STATE, () -> y.move(0, 12, 13));
        due.refuses("8: index ahead of not open", Due.INDEX, () -> y.move(0, -1, 13));
    }

    private static void refusedMovesChangeNothing() {
        VariantMill x = FourWays.begun(Due.set(0), Due.set(24));
        FourWays.toAndFro(x, 0, 0, 4);
        for (int i = 0; i < 5; i++) {
            due.refuses("8: refused", Due.STATE, () -> x.move(0, 0, 2));
            due.refuses("8: refused, no cell", Due.INDEX, () -> x.move(0, 0, 25));
        }
        stands("8: nothing changed", x, VariantMill.OPEN, 1, 1 << 24, 4);
        goes("8: not yet", x, 0, 1, VariantMill.OPEN);
        goes("8: not yet", x, 24, 23, VariantMill.OPEN);
        goes("8: not yet", x, 1, 0, VariantMill.OPEN);
        goes("8: the third time", x, 23, 24, VariantMill.DRAWN);
    }

    private static void wonByTakingAll() {
        VariantMill x = FourWays.begun(Due.set(0), Due.set(1));
        goes("8: takes the last one", x, 0, 1, VariantMill.FIRST_WON);
        stands("9: the first one has won", x, VariantMill.FIRST_WON, Due.set(1), 0, 1);
    }

    /** A game by one LEAP. */
    private static VariantMill byLeap(int dx, int dy, int own, int other) {
        VariantMill x = new VariantMill();
        x.card(VariantMill.LEAP, dx, dy, 1);
        x.variant(0, 1);
        x.begin(0, 0, 1, own, other);
        return x;
    }

    private static void wonByNoMove() {
        VariantMill x = byLeap(1, 0, Due.set(0), Due.set(24, 23));
        goes("8: the second one is stuck", x, 0, 1, VariantMill.FIRST_WON);
        stands("9: stuck", x, VariantMill.FIRST_WON, Due.set(1), Due.set(23, 24), 1);
        VariantMill y = byLeap(1, 0, Due.set(3), Due.set(20));
        goes("8: the first one is stuck, but does not have to move", y, 3, 4, VariantMill.OPEN);
        goes("8: now it has to", y, 20, 21, VariantMill.SECOND_WON);
        stands("9: stuck", y, VariantMill.SECOND_WON, Due.set(4), Due.set(21), 2);
        VariantMill up = byLeap(0, -1, Due.set(10), Due.set(24));
        goes("8: the second one would go down, off the board", up, 10, 5, VariantMill.FIRST_WON);
        VariantMill down = byLeap(0, 1, Due.set(10), Due.set(24));
        goes("8: the second one can go up", down, 10, 15, VariantMill.OPEN);
    }

    private static void wonBySecond() {
        VariantMill x = FourWays.begun(Due.set(0), Due.set(2));
        goes("8: walks into it", x, 0, 1, VariantMill.OPEN);
        goes("8: taken", x, 2, 1, VariantMill.SECOND_WON);
        stands("9: the second one has won", x, VariantMill.SECOND_WON, 0, Due.set(1), 2);
    }

    private static void endlessAtTheThirdTime() {
        VariantMill x = FourWays.begun(Due.set(0), Due.set(24));
        for (int move = 0; move < 8; move++) {
            int number = move;
            due.is("8: move " + move, move == 7 ? VariantMill.DRAWN : VariantMill.OPEN,
                    () -> FourWays.toAndFro(x, 0, number, number + 1));
        }
        stands("8: the beginning counts", x, VariantMill.DRAWN, 1, 1 << 24, 8);
        due.is("16: an endless one", 1, () -> x.endless(0));
    }

    /** The same cells come back with the other one to move: a tempo is lost on a triangle. */
    private static void threeTimesNeedTheSameOneToMove() {
        VariantMill x = new VariantMill();
        x.card(VariantMill.LEAP, 1, 0, 1);
        x.card(VariantMill.LEAP, -2, 0, 1);
        x.card(VariantMill.LEAP, -1, 0, 1);
        x.variant(0, 7);
        x.begin(0, 0, 1, Due.set(0), Due.set(20));
        int[][] steps = {{0, 1}, {20, 21}, {1, 2}, {21, 20}, {2, 0}, {20, 21}, {0, 1}, {21, 20},
            {1, 0}};
        for (int[] step : steps) {
            goes("8: two times each", x, step[0], step[1], VariantMill.OPEN);
        }
        stands("8: three times there, not with the same one to move", x, VariantMill.OPEN,
                Due.set(0), Due.set(20), 9);
        due.is("16: none endless yet", 0, () -> x.endless(0));
    }

    private static void threeTimesNeedTheSamePieces() {
        VariantMill x = FourWays.begun(Due.set(0), Due.set(24));
        int[][] steps = {{0, 1}, {24, 23}, {1, 0}, {23, 22}, {0, 1}, {22, 23}, {1, 0}, {23, 24},
            {0, 1}, {24, 19}, {1, 0}};
        for (int[] step : steps) {
            goes("8: the second one stands elsewhere", x, step[0], step[1], VariantMill.OPEN);
        }
        goes("8: the third time", x, 19, 24, VariantMill.DRAWN);
        VariantMill y = FourWays.begun(Due.set(0, 12), Due.set(24));
        int[][] more = {{0, 1}, {24, 23}, {12, 11}, {23, 24}, {11, 12}, {24, 23}, {1, 0}};
        for (int[] step : more) {
            goes("8: two pieces", y, step[0], step[1], VariantMill.OPEN);
        }
        goes("8: two pieces, the second time", y, 23, 24, VariantMill.OPEN);
    }

    private static void drawnAtSixtyMoves() {
        VariantMill x = FourWays.begun(Due.set(0), Due.set(24));
        due.is("8: walks 59 moves", VariantMill.OPEN, () -> FourWays.walk(x, 0, 59));
        goes("8: the 60th move", x, 19, 24, VariantMill.DRAWN);
        stands("9: drawn at 60 moves", x, VariantMill.DRAWN, Due.set(10), Due.set(24), 60);
        due.is("16: but not endless", 0, () -> x.endless(0));
        due.refuses("8: no 61st move", Due.STATE, () -> x.move(0, 10, 11));
    }

    private static void winAtSixtyMoves() {
        VariantMill x = FourWays.begun(Due.set(0), Due.set(24, 13));
        due.is("8: walks 58 moves", VariantMill.OPEN, () -> FourWays.walk(x, 0, 58));
        goes("8: the 59th move walks into it", x, 11, 12, VariantMill.OPEN);
        goes("8: a win goes ahead of the 60 moves", x, 13, 12, VariantMill.SECOND_WON);
        due.is("11: 60 moves", 60, () -> x.made(0));
    }

    private static void endlessAtSixtyMoves() {
        VariantMill x = FourWays.begun(Due.set(0), Due.set(24));
        due.is("8: walks 52 moves", VariantMill.OPEN, () -> FourWays.walk(x, 0, 52));
        int[][] steps = {{2, 3}, {16, 11}, {3, 2}, {11, 16}, {2, 3}, {16, 11}, {3, 2}};
        for (int[] step : steps) {
            goes("8: to and fro", x, step[0], step[1], VariantMill.OPEN);
        }
        goes("8: three times goes ahead of the 60 moves", x, 11, 16, VariantMill.DRAWN);
        due.is("11: 60 moves", 60, () -> x.made(0));
        due.is("16: it is endless", 1, () -> x.endless(0));
    }

    private static void gamesStandApart() {
        VariantMill x = FourWays.begun(Due.set(0), Due.set(24));
        x.begin(0, 2, 3, Due.set(0), Due.set(24));
        FourWays.toAndFro(x, 0, 0, 4);
        due.is("8: the other game has its own times", VariantMill.OPEN,
                () -> FourWays.toAndFro(x, 1, 0, 4));
        due.is("11: of the one", 4, () -> x.made(0));
        x.move(0, 0, 5);
        due.is("11: of the one, one more", 5, () -> x.made(0));
        due.is("11: of the other", 4, () -> x.made(1));
        due.is("10: of the other", 1, () -> x.pieces(1, false));
    }
}
