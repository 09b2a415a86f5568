/** Promises 5 to 11: one test for each sentence that names a bound; the sentence stands above it. */
public final class GameBoundsTest {
    private static final Due due = new Due();
    private static final int OWN = Due.set(0);
    private static final int OTHER = Due.set(24);
    private static final int[] FAR = {Integer.MIN_VALUE, Integer.MIN_VALUE + 1, Integer.MAX_VALUE,
        -256, -255, 256, 257, 65536, 1 << 30};

    public static void main(String[] args) {
        beginVariant();
        beginFirst();
        beginSecond();
        beginAnotherPlayer();
        beginOneToSixOfOwn();
        beginOneToSixOfOther();
        beginCellsOfTheBoard();
        beginHoles();
        beginCommonCells();
        beginBannedByVotes();
        beginBannedForEver();
        beginTwelveGames();
        beginFirstOneHasNoMove();
        beginSecondOneNeedsNoMove();
        beginIndexAheadOfAll();
        beginArgumentAheadOfState();
        gamesThatThereAreNot();
        cellsThatThereAreNot();
        canOfGamesNotOpen();
        canOfOthersAndEmptyCells();
        canByAllAnswersTheSame();
        moveNotOpen();
        moveVoid();
        moveAsNoCardSays();
        moveIndexAheadOfState();
        moveReturnsTheState();
        firstOneMovesFirst();
        wonWithoutPieces();
        wonWithoutMove();
        thirdTimeAtTheEarliest();
        thirdTimeNotFromTheBeginning();
        secondTimeIsNotEnough();
        thirdTimeOfBoth();
        thirdTimeWithTheSameOneToMove();
        fiftyNineAndSixtyMoves();
        wonAtSixtyMoves();
        thirdTimeAtSixtyMoves();
        stateVoidOrNot();
        piecesLeastAndMost();
        madeLeastAndMost();
        due.end();
    }

    /** As many games of the one variant as are asked for. */
    private static VariantMill withGames(int count) {
        VariantMill x = FourWays.variants(0);
        for (int i = 0; i < count; i++) {
            x.begin(0, 0, 1, OWN, OTHER);
        }
        return x;
    }

    private static int lowest(int count) {
        return (1 << count) - 1;
    }

    // ---- promise 5

    /** "IndexOutOfBoundsException if there is no such variant". */
    private static void beginVariant() {
        for (int count = 0; count <= 4; count++) {
            int[] holes = new int[count];
            for (int variant = 0; variant < count; variant++) {
                int v = variant;
                due.is("5: the variant " + v + " of " + count, 0,
                        () -> FourWays.variants(holes).begin(v, 0, 1, OWN, OTHER));
            }
            int[] none = {-1, count, 4, 5, Integer.MIN_VALUE, Integer.MAX_VALUE};
            for (int variant : none) {
                due.refuses("5: no variant " + variant + " of " + count, Due.INDEX,
                        () -> FourWays.variants(holes).begin(variant, 0, 1, OWN, OTHER));
            }
        }
    }

    /** "There are the players 0 to 4", of the first one. */
    private static void beginFirst() {
        for (int player = 0; player <= 4; player++) {
            int first = player;
            due.is("5: the first one " + first, 0,
                    () -> withGames(0).begin(0, first, (first + 1) % 5, OWN, OTHER));
        }
        int[] none = {-1, 5, 6};
        for (int first : none) {
            due.refuses("5: no first one " + first, Due.INDEX,
                    () -> withGames(0).begin(0, first, 1, OWN, OTHER));
        }
        for (int first : FAR) {
            due.refuses("5: no first one " + first, Due.INDEX,
                    () -> withGames(0).begin(0, first, 1, OWN, OTHER));
        }
    }

    /** "no such .. player, of either": of the second one. */
    private static void beginSecond() {
        for (int player = 0; player <= 4; player++) {
            int second = player;
            due.is("5: the second one " + second, 0,
                    () -> withGames(0).begin(0, (second + 4) % 5, second, OWN, OTHER));
        }
        int[] none = {-1, 5, 6};
        for (int second : none) {
            due.refuses("5: no second one " + second, Due.INDEX,
                    () -> withGames(0).begin(0, 1, second, OWN, OTHER));
        }
        for (int second : FAR) {
            due.refuses("5: no second one " + second, Due.INDEX,
                    () -> withGames(0).begin(0, 1, second, OWN, OTHER));
        }
    }

    /** "IllegalArgumentException if both players are the same". */
    private static void beginAnotherPlayer() {
        for (int first = 0; first <= 4; first++) {
            for (int second = 0; second <= 4; second++) {
                int one = first;
                int two = second;
                if (one == two) {
                    due.refuses("5: " + one + " against itself", Due.ARGUMENT,
                            () -> withGames(0).begin(0, one, two, OWN, OTHER));
                } else {
                    due.is("5: " + one + " against " + two, 0,
                            () -> withGames(0).begin(0, one, two, OWN, OTHER));
                }
            }
        }
    }

    /** "own .. has not 1 to 6 cells". */
    private static void beginOneToSixOfOwn() {
        for (int count = 0; count <= 24; count++) {
            int own = lowest(count);
            if (count >= 1 && count <= 6) {
                due.is("5: own of " + count, 0, () -> withGames(0).begin(0, 0, 1, own, OTHER));
            } else {
                due.refuses("5: own of " + count, Due.ARGUMENT,
                        () -> withGames(0).begin(0, 0, 1, own, OTHER));
            }
        }
    }

    /** "or other has not 1 to 6 cells". */
    private static void beginOneToSixOfOther() {
        for (int count = 0; count <= 24; count++) {
            int other = lowest(count) << 1;
            if (count >= 1 && count <= 6) {
                due.is("5: other of " + count, 0, () -> withGames(0).begin(0, 0, 1, OWN, other));
            } else {
                due.refuses("5: other of " + count, Due.ARGUMENT,
                        () -> withGames(0).begin(0, 0, 1, OWN, other));
            }
        }
    }

    /** "cells of the board": 0 to 24, and no bit above, be it alone or with a cell. */
    private static void beginCellsOfTheBoard() {
        for (int bit = 0; bit < 32; bit++) {
            int set = 1 << bit;
            int away = bit == 12 ? Due.set(11) : Due.set(12);
            if (bit < 25) {
                due.is("5: own " + bit, 0, () -> withGames(0).begin(0, 0, 1, set, away));
                due.is("5: other " + bit, 0, () -> withGames(0).begin(0, 0, 1, away, set));
                continue;
            }
            int[] sets = {set, set | 1};
            for (int off : sets) {
                due.refuses("5: own " + off, Due.ARGUMENT,
                        () -> withGames(0).begin(0, 0, 1, off, away));
                due.refuses("5: other " + off, Due.ARGUMENT,
                        () -> withGames(0).begin(0, 0, 1, away, off));
            }
        }
    }

    /** "or a hole". */
    private static void beginHoles() {
        for (int cell = 0; cell < 25; cell++) {
            int hole = 1 << cell;
            int beside = 1 << (cell + 1) % 25;
            int away = 1 << (cell + 12) % 25;
            due.refuses("5: own on the hole " + cell, Due.ARGUMENT,
                    () -> FourWays.variants(hole).begin(0, 0, 1, hole, away));
            due.refuses("5: own on the hole too " + cell, Due.ARGUMENT,
                    () -> FourWays.variants(hole).begin(0, 0, 1, hole | beside, away));
            due.refuses("5: other on the hole " + cell, Due.ARGUMENT,
                    () -> FourWays.variants(hole).begin(0, 0, 1, away, hole));
            due.refuses("5: other on the hole too " + cell, Due.ARGUMENT,
                    () -> FourWays.variants(hole).begin(0, 0, 1, away, hole | beside));
            due.is("5: none on the hole " + cell, 0,
                    () -> FourWays.variants(hole).begin(0, 0, 1, beside, away));
        }
    }

    /** "or both have a cell in common". */
    private static void beginCommonCells() {
        for (int cell = 0; cell < 25; cell++) {
            int common = 1 << cell;
            int own = 1 << (cell + 1) % 25;
            int other = 1 << (cell + 2) % 25;
            due.refuses("5: both on " + cell, Due.ARGUMENT,
                    () -> withGames(0).begin(0, 0, 1, common, common));
            due.refuses("5: both on " + cell + " too", Due.ARGUMENT,
                    () -> withGames(0).begin(0, 0, 1, common | own, common | other));
            due.is("5: not both on " + cell, 0,
                    () -> withGames(0).begin(0, 0, 1, common | own, other));
        }
    }

    /** "IllegalStateException if the variant is banned", by three votes or more. */
    private static void beginBannedByVotes() {
        VariantMill x = FourWays.variants(0, 0);
        for (int voter = 0; voter < 5; voter++) {
            int votes = voter + 1;
            x.vote(voter, 0);
            if (votes < 3) {
                due.is("5: with " + votes + " votes", voter, () -> x.begin(0, 0, 1, OWN, OTHER));
            } else {
                due.refuses("5: with " + votes + " votes", Due.STATE,
                        () -> x.begin(0, 0, 1, OWN, OTHER));
            }
        }
        due.is("5: of the variant that is not banned", 2, () -> x.begin(1, 0, 1, OWN, OTHER));
        x.vote(4, 0);
        x.vote(3, 0);
        due.refuses("5: with three votes again", Due.STATE, () -> x.begin(0, 0, 1, OWN, OTHER));
        x.vote(2, 0);
        due.is("5: with two votes again", 3, () -> x.begin(0, 0, 1, OWN, OTHER));
    }

    /** "IllegalStateException if the variant is banned", as two games of it were endless. */
    private static void beginBannedForEver() {
        VariantMill x = withGames(2);
        FourWays.toAndFro(x, 0, 0, 8);
        due.is("5: behind one endless game", 2, () -> x.begin(0, 0, 1, OWN, OTHER));
        FourWays.toAndFro(x, 1, 0, 8);
        due.refuses("5: behind two", Due.STATE, () -> x.begin(0, 0, 1, OWN, OTHER));
    }

    /** "there are 12 games", "numbered from 0", whatever their states and variants. */
    private static void beginTwelveGames() {
        VariantMill x = FourWays.variants(0, 0);
        for (int i = 0; i < 12; i++) {
            int number = i;
            due.refuses("5: not there yet " + i, Due.INDEX, () -> x.made(number));
            due.is("5: the number " + i, number,
                    () -> x.begin(number % 2, 0, 1, OWN, Due.set(1)));
            due.is("5: it is there " + i, 0, () -> x.made(number));
            if (i % 3 == 0) {
                x.move(i, 0, 1);
            }
        }
        for (int i = 0; i < 3; i++) {
            due.refuses("5: a thirteenth game", Due.STATE, () -> x.begin(0, 0, 1, OWN, OTHER));
        }
        due.refuses("5: the game 12 is not there", Due.INDEX, () -> x.made(12));
        due.is("5: the twelfth is as it began", VariantMill.OPEN, () -> x.state(11));
    }

    /** "or the first one has no move": off the board, into a hole, or onto its own pieces. */
    private static void beginFirstOneHasNoMove() {
        VariantMill x = new VariantMill();
        x.card(VariantMill.LEAP, 0, -1, 1);
        x.variant(Due.set(7), 1);
        due.refuses("5: all at the edge", Due.STATE,
                () -> x.begin(0, 0, 1, lowest(5), OTHER));
        due.refuses("5: ahead of a hole", Due.STATE, () -> x.begin(0, 0, 1, Due.set(12), OTHER));
        due.refuses("5: behind its own piece", Due.STATE,
                () -> x.begin(0, 0, 1, Due.set(0, 5, 10, 15, 20, 12), OTHER));
        due.is("5: no number was taken", 0, () -> x.begin(0, 0, 1, Due.set(0, 6), OTHER));
        due.is("5: one taking move is enough", 1, () -> x.begin(0, 0, 1, Due.set(5), OWN));
    }

    /** Only "the first one has no move" refuses: the second one may have none. */
    private static void beginSecondOneNeedsNoMove() {
        VariantMill x = new VariantMill();
        x.card(VariantMill.LEAP, 0, 1, 1);
        x.variant(0, 1);
        due.is("5: the second one is at its edge", 0, () -> x.begin(0, 0, 1, Due.set(7), OWN));
        due.is("5: it has lost when it has to move", VariantMill.FIRST_WON,
                () -> x.move(0, 7, 12));
    }

    /** "The first line of a method's throws clause that applies decides": the index. */
    private static void beginIndexAheadOfAll() {
        int[][] bad = {{1, 0, 1}, {-1, 0, 1}, {0, 5, 1}, {0, -1, 1}, {0, 0, 5}, {0, 0, -1},
            {0, 5, 5}, {0, -1, -1}, {1, 5, 5}};
        int[][] sets = {{OWN, OTHER}, {0, OTHER}, {OWN, 0}, {OWN, OWN}, {-1, -1}};
        for (int[] b : bad) {
            for (int[] s : sets) {
                due.refuses("5: no index, sets " + s[0] + " " + s[1], Due.INDEX,
                        () -> withGames(0).begin(b[0], b[1], b[2], s[0], s[1]));
                due.refuses("5: no index, 12 games", Due.INDEX,
                        () -> withGames(12).begin(b[0], b[1], b[2], s[0], s[1]));
            }
        }
        VariantMill banned = withGames(0);
        FourWays.threeVotes(banned, 0);
        due.refuses("5: no index, banned", Due.INDEX, () -> banned.begin(0, 0, 5, OWN, OTHER));
        due.refuses("5: no index, no argument, banned", Due.INDEX,
                () -> banned.begin(0, 5, 5, 0, 0));
    }

    /** "The first line of a method's throws clause that applies decides": the argument. */
    private static void beginArgumentAheadOfState() {
        int[][] bad = {{0, 0, OWN, OTHER}, {0, 1, 0, OTHER}, {0, 1, OWN, 0},
            {0, 1, lowest(7), OTHER}, {0, 1, OTHER, lowest(7)}, {0, 1, OWN, OWN},
            {0, 1, 1 << 25, OTHER}, {0, 1, OWN, 1 << 31}, {0, 1, Due.set(12), OTHER},
            {0, 1, OWN, Due.set(12)}};
        for (int[] b : bad) {
            VariantMill banned = FourWays.variants(Due.set(12));
            FourWays.threeVotes(banned, 0);
            due.refuses("5: no argument, banned", Due.ARGUMENT,
                    () -> banned.begin(0, b[0], b[1], b[2], b[3]));
            VariantMill full = FourWays.variants(Due.set(12));
            for (int i = 0; i < 12; i++) {
                full.begin(0, 0, 1, OWN, OTHER);
            }
            due.refuses("5: no argument, 12 games", Due.ARGUMENT,
                    () -> full.begin(0, b[0], b[1], b[2], b[3]));
            VariantMill stuck = new VariantMill();
            stuck.card(VariantMill.HOP, 1, 0, 1);
            stuck.variant(Due.set(12), 1);
            due.refuses("5: no argument, no move", Due.ARGUMENT,
                    () -> stuck.begin(0, b[0], b[1], b[2], b[3]));
            due.refuses("5: no move", Due.STATE, () -> stuck.begin(0, 0, 1, OWN, OTHER));
        }
    }

    // ---- promises 6 to 11: games and cells

    /** "IndexOutOfBoundsException if there is no such game", of none, one and twelve games. */
    private static void gamesThatThereAreNot() {
        int[] counts = {0, 1, 12};
        for (int count : counts) {
            VariantMill x = withGames(count);
            int[] none = {-1, count, 12, 13, 256, -256, Integer.MIN_VALUE, Integer.MAX_VALUE};
            for (int g : none) {
                String what = " no game " + g + " of " + count;
                due.refuses("6:" + what, Due.INDEX, () -> x.can(g, 0, 1) ? 1 : 0);
                due.refuses("7:" + what, Due.INDEX, () -> x.canByAll(g, 0, 1) ? 1 : 0);
                due.refuses("8:" + what, Due.INDEX, () -> x.move(g, 0, 1));
                due.refuses("9:" + what, Due.INDEX, () -> x.state(g));
                due.refuses("10:" + what, Due.INDEX, () -> x.pieces(g, false));
                due.refuses("10:" + what, Due.INDEX, () -> x.pieces(g, true));
                due.refuses("11:" + what, Due.INDEX, () -> x.made(g));
            }
            for (int game = 0; game < count; game += 11) {
                int g = game;
                String what = " the game " + g + " of " + count;
                due.holds("6:" + what, true, () -> x.can(g, 0, 1));
                due.holds("7:" + what, true, () -> x.canByAll(g, 0, 1));
                due.is("9:" + what, VariantMill.OPEN, () -> x.state(g));
                due.is("10:" + what, OWN, () -> x.pieces(g, false));
                due.is("10:" + what, OTHER, () -> x.pieces(g, true));
                due.is("11:" + what, 0, () -> x.made(g));
                due.is("8:" + what, VariantMill.OPEN, () -> x.move(g, 0, 1));
                due.is("11: then" + what, 1, () -> x.made(g));
            }
        }
    }

    /** "IndexOutOfBoundsException if there is no such .. cell": 0 to 24 there are. */
    private static void cellsThatThereAreNot() {
        VariantMill x = withGames(1);
        int[] none = {-1, 25, 26, -25, 32, Integer.MIN_VALUE, Integer.MAX_VALUE};
        for (int cell : none) {
            due.refuses("6: from " + cell, Due.INDEX, () -> x.can(0, cell, 1) ? 1 : 0);
            due.refuses("6: to " + cell, Due.INDEX, () -> x.can(0, 0, cell) ? 1 : 0);
            due.refuses("6: both " + cell, Due.INDEX, () -> x.can(0, cell, cell) ? 1 : 0);
            due.refuses("7: from " + cell, Due.INDEX, () -> x.canByAll(0, cell, 1) ? 1 : 0);
            due.refuses("7: to " + cell, Due.INDEX, () -> x.canByAll(0, 0, cell) ? 1 : 0);
            due.refuses("7: both " + cell, Due.INDEX, () -> x.canByAll(0, cell, cell) ? 1 : 0);
            due.refuses("8: from " + cell, Due.INDEX, () -> x.move(0, cell, 1));
            due.refuses("8: to " + cell, Due.INDEX, () -> x.move(0, 0, cell));
            due.refuses("8: both " + cell, Due.INDEX, () -> x.move(0, cell, cell));
        }
        for (int cell = 0; cell < 25; cell++) {
            int c = cell;
            due.holds("6: from 0 to " + c, c == 1 || c == 5, () -> x.can(0, 0, c));
            due.holds("6: from " + c + " to 0", false, () -> x.can(0, c, 0));
            due.holds("7: from 0 to " + c, c == 1 || c == 5, () -> x.canByAll(0, 0, c));
            due.holds("7: from " + c + " to 0", false, () -> x.canByAll(0, c, 0));
        }
        x.move(0, 0, 1);
        due.holds("6: from the last cell", true, () -> x.can(0, 24, 23));
        due.holds("7: from the last cell", true, () -> x.canByAll(0, 24, 23));
        due.is("8: from the last cell", VariantMill.OPEN, () -> x.move(0, 24, 23));
        x.move(0, 1, 0);
        due.is("8: to the last cell", VariantMill.OPEN, () -> x.move(0, 23, 24));
    }

    // ---- promises 6 and 7

    private static VariantMill firstWon() {
        VariantMill x = FourWays.begun(Due.set(0, 12), Due.set(1));
        x.move(0, 0, 1);
        return x;
    }

    /** The one to move, the second one, has pieces but no move; so has the first one moves. */
    private static VariantMill firstWonByNoMove() {
        VariantMill x = new VariantMill();
        x.card(VariantMill.LEAP, 1, 0, 1);
        x.variant(0, 1);
        x.begin(0, 0, 1, Due.set(0), Due.set(24));
        x.move(0, 0, 1);
        return x;
    }

    private static VariantMill secondWon() {
        VariantMill x = FourWays.begun(Due.set(0), Due.set(2, 24));
        x.move(0, 0, 1);
        x.move(0, 2, 1);
        return x;
    }

    private static VariantMill endless() {
        VariantMill x = withGames(1);
        FourWays.toAndFro(x, 0, 0, 8);
        return x;
    }

    private static VariantMill sixtyMoves() {
        VariantMill x = withGames(1);
        FourWays.walk(x, 0, 60);
        return x;
    }

    private static void noneCanGo(String what, VariantMill x, int state, int cell) {
        due.is("9: " + what, state, () -> x.state(0));
        for (int to = 0; to < 25; to++) {
            int end = to;
            due.holds("6: " + what + ", to " + end, false, () -> x.can(0, cell, end));
            due.holds("7: " + what + ", to " + end, false, () -> x.canByAll(0, cell, end));
        }
    }

    /** "false if it is not OPEN", though a card says so, in each of the three other states. */
    private static void canOfGamesNotOpen() {
        noneCanGo("FIRST_WON", firstWon(), VariantMill.FIRST_WON, 12);
        noneCanGo("FIRST_WON by no move", firstWonByNoMove(), VariantMill.FIRST_WON, 1);
        noneCanGo("SECOND_WON", secondWon(), VariantMill.SECOND_WON, 24);
        noneCanGo("DRAWN, endless", endless(), VariantMill.DRAWN, 0);
        noneCanGo("DRAWN, 60 moves", sixtyMoves(), VariantMill.DRAWN, 10);
        noneCanGo("DRAWN, the one who waits", sixtyMoves(), VariantMill.DRAWN, 24);
    }

    /** "the one to move can go": no piece, the one who waits, its own place, its own piece. */
    private static void canOfOthersAndEmptyCells() {
        VariantMill x = FourWays.begun(Due.set(0, 1), Due.set(23, 24));
        int[][] none = {{12, 13}, {24, 19}, {23, 22}, {0, 0}, {1, 1}, {0, 1}, {1, 0}, {24, 24}};
        for (int[] n : none) {
            due.holds("6: " + n[0] + " to " + n[1], false, () -> x.can(0, n[0], n[1]));
            due.holds("7: " + n[0] + " to " + n[1], false, () -> x.canByAll(0, n[0], n[1]));
        }
        due.holds("6: 1 to 2", true, () -> x.can(0, 1, 2));
        due.holds("7: 1 to 2", true, () -> x.canByAll(0, 1, 2));
        x.move(0, 1, 2);
        due.holds("6: now the first one waits", false, () -> x.can(0, 0, 5));
        due.holds("7: now the first one waits", false, () -> x.canByAll(0, 0, 5));
        due.holds("6: now the second one can", true, () -> x.can(0, 24, 19));
        due.holds("7: now the second one can", true, () -> x.canByAll(0, 24, 19));
    }

    /** "Returns the same, found from all moves by all cards on all cells": full boards, eight cards. */
    private static void canByAllAnswersTheSame() {
        int[][] sides = {{lowest(6), lowest(6) << 19}, {Due.set(6, 7, 8, 11, 13, 16), OTHER},
            {Due.set(0, 4, 12), Due.set(1, 3, 11, 13, 17, 24)}};
        for (int[] side : sides) {
            for (int from = 0; from < 25; from++) {
                VariantMill x = new VariantMill();
                int[][] cards = {{0, 1, 0, 1}, {0, 2, -1, 4}, {1, -1, 1, 4}, {1, 0, 1, 2},
                    {2, 1, 0, 4}, {2, 0, 1, 3}, {2, -1, -1, 4}, {1, 2, 2, 2}};
                for (int[] c : cards) {
                    x.card(c[0], c[1], c[2], c[3]);
                }
                x.variant(Due.set(9, 15), 255);
                x.begin(0, 0, 1, side[0], side[1]);
                int start = from;
                for (int to = 0; to < 25; to++) {
                    int end = to;
                    due.is("7: as can, " + start + " to " + end, x.can(0, start, end) ? 1 : 0,
                            () -> x.canByAll(0, start, end) ? 1 : 0);
                }
            }
        }
    }

    // ---- promise 8: refusals

    private static void standsStill(String what, VariantMill x, int from, int to) {
        int state = x.state(0);
        int first = x.pieces(0, false);
        int second = x.pieces(0, true);
        int made = x.made(0);
        due.refuses("8: " + what, Due.STATE, () -> x.move(0, from, to));
        due.is("8: the state behind it, " + what, state, () -> x.state(0));
        due.is("8: the first one's pieces behind it, " + what, first, () -> x.pieces(0, false));
        due.is("8: the second one's pieces behind it, " + what, second, () -> x.pieces(0, true));
        due.is("8: the moves behind it, " + what, made, () -> x.made(0));
    }

    /** "IllegalStateException if the game is not OPEN", in each of the three other states. */
    private static void moveNotOpen() {
        standsStill("FIRST_WON", firstWon(), 12, 11);
        standsStill("FIRST_WON by no move", firstWonByNoMove(), 1, 2);
        standsStill("SECOND_WON", secondWon(), 24, 23);
        standsStill("DRAWN, endless", endless(), 0, 1);
        standsStill("DRAWN, 60 moves", sixtyMoves(), 10, 11);
    }

    /** "is void": "as long as it is banned", by three votes, or for ever. */
    private static void moveVoid() {
        VariantMill x = withGames(1);
        x.vote(4, 0);
        x.vote(3, 0);
        due.is("8: with two votes", VariantMill.OPEN, () -> x.move(0, 0, 1));
        x.vote(2, 0);
        standsStill("with three votes", x, 24, 23);
        x.vote(1, 0);
        x.vote(0, 0);
        standsStill("with five votes", x, 24, 23);
        x.vote(4, 0);
        x.vote(3, 0);
        standsStill("with three votes left", x, 24, 23);
        x.vote(2, 0);
        due.is("8: with two votes left", VariantMill.OPEN, () -> x.move(0, 24, 23));
        VariantMill y = withGames(3);
        FourWays.toAndFro(y, 1, 0, 8);
        due.is("8: behind one endless game", VariantMill.OPEN, () -> y.move(0, 0, 1));
        FourWays.toAndFro(y, 2, 0, 8);
        standsStill("behind two endless games", y, 24, 23);
        FourWays.threeVotes(y, 0);
        FourWays.threeVotes(y, 0);
        standsStill("for ever", y, 24, 23);
    }

    /** "or no card says so": round the edges, too far, onto one's own, into holes, of others. */
    private static void moveAsNoCardSays() {
        VariantMill x = FourWays.variants(Due.set(9));
        x.begin(0, 0, 1, Due.set(4, 3, 5), Due.set(20, 24));
        int[][] none = {{4, 5}, {5, 4}, {4, 0}, {4, 9}, {4, 3}, {3, 4}, {4, 4}, {3, 13}, {3, 7},
            {24, 23}, {20, 15}, {12, 13}, {0, 24}};
        for (int[] n : none) {
            standsStill("from " + n[0] + " to " + n[1], x, n[0], n[1]);
        }
        due.is("8: as a card says", VariantMill.OPEN, () -> x.move(0, 3, 8));
    }

    /** "The first line of a method's throws clause that applies decides". */
    private static void moveIndexAheadOfState() {
        VariantMill[] all = {firstWon(), secondWon(), endless(), sixtyMoves(), withGames(1),
            withGames(1)};
        FourWays.threeVotes(all[4], 0);
        for (VariantMill x : all) {
            due.refuses("8: no game", Due.INDEX, () -> x.move(1, 0, 1));
            due.refuses("8: no cell from", Due.INDEX, () -> x.move(0, -1, 1));
            due.refuses("8: no cell to", Due.INDEX, () -> x.move(0, 0, 25));
        }
    }

    // ---- promise 8: what is behind a move

    /** "Returns the state then": each of the four. */
    private static void moveReturnsTheState() {
        VariantMill x = withGames(1);
        for (int i = 0; i < 7; i++) {
            int number = i;
            due.is("8: OPEN", 0, () -> FourWays.toAndFro(x, 0, number, number + 1));
        }
        due.is("8: DRAWN", 3, () -> FourWays.toAndFro(x, 0, 7, 8));
        VariantMill y = FourWays.begun(Due.set(0, 12), Due.set(1));
        due.is("8: FIRST_WON", 1, () -> y.move(0, 0, 1));
        VariantMill z = FourWays.begun(Due.set(0), Due.set(2));
        due.is("8: OPEN ahead of that", 0, () -> z.move(0, 0, 1));
        due.is("8: SECOND_WON", 2, () -> z.move(0, 2, 1));
    }

    /** "The two move by turns, the first one first". */
    private static void firstOneMovesFirst() {
        VariantMill x = FourWays.variants(0);
        x.begin(0, 4, 0, OWN, OTHER);
        due.refuses("8: not the second one", Due.STATE, () -> x.move(0, 24, 23));
        due.is("8: the first one", VariantMill.OPEN, () -> x.move(0, 0, 1));
        due.refuses("8: not the first one again", Due.STATE, () -> x.move(0, 1, 2));
        due.is("8: the second one", VariantMill.OPEN, () -> x.move(0, 24, 23));
        due.refuses("8: not the second one again", Due.STATE, () -> x.move(0, 23, 22));
    }

    /** "if the other one has no pieces .. the one who moved has won": not while it has one. */
    private static void wonWithoutPieces() {
        VariantMill x = FourWays.begun(Due.set(0), Due.set(1, 3, 24));
        due.is("8: two are left", VariantMill.OPEN, () -> x.move(0, 0, 1));
        x.move(0, 24, 23);
        due.is("8: none of them taken", VariantMill.OPEN, () -> x.move(0, 1, 2));
        x.move(0, 23, 22);
        due.is("8: one is left", VariantMill.OPEN, () -> x.move(0, 2, 3));
        x.move(0, 22, 17);
        x.move(0, 3, 8);
        x.move(0, 17, 12);
        x.move(0, 8, 9);
        x.move(0, 12, 13);
        x.move(0, 9, 8);
        x.move(0, 13, 14);
        x.move(0, 8, 9);
        due.is("8: the second one takes the last one", VariantMill.SECOND_WON,
                () -> x.move(0, 14, 9));
        due.is("10: none is left", 0, () -> x.pieces(0, false));
        due.is("10: one is left", Due.set(9), () -> x.pieces(0, true));
    }

    /** "or no move, the one who moved has won": not while the other one has one move. */
    private static void wonWithoutMove() {
        VariantMill x = new VariantMill();
        x.card(VariantMill.LEAP, 1, 0, 1);
        x.variant(0, 1);
        x.begin(0, 0, 1, Due.set(0), Due.set(23));
        due.is("8: the second one has one move", VariantMill.OPEN, () -> x.move(0, 0, 1));
        due.is("8: the first one has moves", VariantMill.OPEN, () -> x.move(0, 23, 24));
        due.is("8: the second one has none", VariantMill.FIRST_WON, () -> x.move(0, 1, 2));
        due.is("10: but it has its piece", Due.set(24), () -> x.pieces(0, true));
    }

    /** "have now been there three times, that at the beginning counted": behind the eighth move. */
    private static void thirdTimeAtTheEarliest() {
        VariantMill x = withGames(1);
        due.is("8: behind seven moves", VariantMill.OPEN, () -> FourWays.toAndFro(x, 0, 0, 7));
        due.is("16: not yet", 0, () -> x.endless(0));
        due.is("8: behind eight moves", VariantMill.DRAWN, () -> FourWays.toAndFro(x, 0, 7, 8));
        due.is("16: endless", 1, () -> x.endless(0));
        due.is("11: eight moves", 8, () -> x.made(0));
    }

    /** "have now been there three times", of what was first there behind the first move. */
    private static void thirdTimeNotFromTheBeginning() {
        VariantMill x = withGames(1);
        int[][] steps = {{0, 5}, {24, 19}, {5, 6}, {19, 18}, {6, 5}, {18, 19}, {5, 6}, {19, 18},
            {6, 5}};
        for (int[] s : steps) {
            due.is("8: from " + s[0] + " to " + s[1], VariantMill.OPEN,
                    () -> x.move(0, s[0], s[1]));
        }
        due.is("8: the third time since the second move", VariantMill.DRAWN,
                () -> x.move(0, 18, 19));
        due.is("11: ten moves", 10, () -> x.made(0));
    }

    /** "three times": each place behind the moves 4 to 7 is there for the second time alone. */
    private static void secondTimeIsNotEnough() {
        VariantMill x = withGames(1);
        for (int i = 0; i < 7; i++) {
            int number = i;
            due.is("8: the move " + (number + 1), VariantMill.OPEN,
                    () -> FourWays.toAndFro(x, 0, number, number + 1));
            due.is("16: behind the move " + (number + 1), 0, () -> x.endless(0));
        }
    }

    private static void staysOpen(String what, VariantMill x, int[][] steps) {
        for (int[] s : steps) {
            due.is("8: " + what + ", from " + s[0] + " to " + s[1], VariantMill.OPEN,
                    () -> x.move(0, s[0], s[1]));
        }
        due.is("16: " + what, 0, () -> x.endless(0));
    }

    /** "the same pieces of both": the one's pieces alone are there four times and more. */
    private static void thirdTimeOfBoth() {
        VariantMill x = withGames(1);
        staysOpen("the second one goes on", x, new int[][] {{0, 1}, {24, 23}, {1, 0}, {23, 22},
            {0, 1}, {22, 21}, {1, 0}, {21, 20}, {0, 1}, {20, 15}, {1, 0}, {15, 16}});
        VariantMill y = withGames(1);
        staysOpen("the first one goes on", y, new int[][] {{0, 1}, {24, 23}, {1, 2}, {23, 24},
            {2, 3}, {24, 23}, {3, 4}, {23, 24}, {4, 9}, {24, 23}, {9, 8}, {23, 24}});
    }

    /** "with the same one to move": on three columns the one to move changes, the cells do not. */
    private static void thirdTimeWithTheSameOneToMove() {
        VariantMill x = new VariantMill();
        x.card(VariantMill.LEAP, 1, 0, 1);
        x.card(VariantMill.LEAP, -2, 0, 1);
        x.card(VariantMill.LEAP, -1, 0, 1);
        x.variant(0, 7);
        x.begin(0, 0, 1, Due.set(0), Due.set(20));
        staysOpen("twice with the first one, once with the second one", x, new int[][] {{0, 1},
            {20, 21}, {1, 2}, {21, 20}, {2, 0}, {20, 21}, {0, 1}, {21, 20}, {1, 0}});
    }

    /** "Otherwise, if 60 moves were made, it is DRAWN", and not endless. */
    private static void fiftyNineAndSixtyMoves() {
        VariantMill x = withGames(1);
        due.is("8: behind 59 moves", VariantMill.OPEN, () -> FourWays.walk(x, 0, 59));
        due.is("9: behind 59 moves", VariantMill.OPEN, () -> x.state(0));
        due.is("11: 59 moves", 59, () -> x.made(0));
        due.is("8: the 60th move", VariantMill.DRAWN, () -> x.move(0, 19, 24));
        due.is("9: behind 60 moves", VariantMill.DRAWN, () -> x.state(0));
        due.is("11: 60 moves", 60, () -> x.made(0));
        due.is("16: it is not endless", 0, () -> x.endless(0));
    }

    /** "Otherwise": one who wins by the 60th move has won. */
    private static void wonAtSixtyMoves() {
        VariantMill x = FourWays.begun(Due.set(0), Due.set(24, 13));
        FourWays.walk(x, 0, 58);
        x.move(0, 11, 12);
        due.is("8: the 60th move takes the last one", VariantMill.SECOND_WON,
                () -> x.move(0, 13, 12));
        due.is("11: 60 moves", 60, () -> x.made(0));
        due.is("17: a win", 3, () -> x.points(1, 0));
    }

    /** "Otherwise": a third time behind the 60th move is endless. */
    private static void thirdTimeAtSixtyMoves() {
        VariantMill x = withGames(1);
        FourWays.walk(x, 0, 52);
        int[][] steps = {{2, 3}, {16, 11}, {3, 2}, {11, 16}, {2, 3}, {16, 11}, {3, 2}};
        for (int[] s : steps) {
            x.move(0, s[0], s[1]);
        }
        due.is("16: not yet", 0, () -> x.endless(0));
        due.is("8: the 60th move, the third time", VariantMill.DRAWN, () -> x.move(0, 11, 16));
        due.is("11: 60 moves", 60, () -> x.made(0));
        due.is("16: endless", 1, () -> x.endless(0));
    }

    // ---- promises 9 to 11

    /** "Returns the state of a game, void or not", of each state. */
    private static void stateVoidOrNot() {
        VariantMill[] all = {withGames(1), firstWon(), secondWon(), endless()};
        for (int i = 0; i < all.length; i++) {
            int state = i;
            VariantMill x = all[i];
            due.is("9: not void", state, () -> x.state(0));
            FourWays.threeVotes(x, 0);
            due.is("9: void", state, () -> x.state(0));
            FourWays.threeVotes(x, 0);
            due.is("9: no longer void", state, () -> x.state(0));
        }
    }

    /** "Returns the set": of one to six at the beginning, of none when all are taken, void or not. */
    private static void piecesLeastAndMost() {
        for (int count = 1; count <= 6; count++) {
            int own = lowest(count);
            int other = own << 19;
            VariantMill x = FourWays.begun(own, other);
            due.is("10: the first one's " + count, own, () -> x.pieces(0, false));
            due.is("10: the second one's " + count, other, () -> x.pieces(0, true));
            FourWays.threeVotes(x, 0);
            due.is("10: void, the first one's " + count, own, () -> x.pieces(0, false));
            due.is("10: void, the second one's " + count, other, () -> x.pieces(0, true));
        }
        VariantMill first = FourWays.begun(Due.set(23), Due.set(24));
        first.move(0, 23, 24);
        due.is("10: the one on the last cell", Due.set(24), () -> first.pieces(0, false));
        due.is("10: the second one has none", 0, () -> first.pieces(0, true));
        VariantMill second = FourWays.begun(Due.set(6), Due.set(0));
        second.move(0, 6, 1);
        second.move(0, 0, 1);
        due.is("10: the first one has none", 0, () -> second.pieces(0, false));
        due.is("10: the one on the cell 1", Due.set(1), () -> second.pieces(0, true));
    }

    /** "Returns 0 to 60." */
    private static void madeLeastAndMost() {
        VariantMill x = withGames(1);
        due.is("11: at the beginning", 0, () -> x.made(0));
        for (int i = 0; i < 4; i++) {
            int number = i;
            FourWays.toAndFro(x, 0, number, number + 1);
            due.is("11: behind the move " + number, number + 1, () -> x.made(0));
        }
        VariantMill y = sixtyMoves();
        due.is("11: at the end", 60, () -> y.made(0));
        due.refuses("8: no 61st move", Due.STATE, () -> y.move(0, 10, 11));
        due.is("11: still 60", 60, () -> y.made(0));
    }
}
