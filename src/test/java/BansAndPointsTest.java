/** Promises 14 to 17: vote, isBanned, endless, points. */
public final class BansAndPointsTest {
    private static final Due due = new Due();
    private static final int[] NO_VARIANTS = {-1, 2, 4, Integer.MIN_VALUE, Integer.MAX_VALUE};
    private static final int[] NO_PLAYERS = {-1, 5, Integer.MIN_VALUE, Integer.MAX_VALUE};

    public static void main(String[] args) {
        votesAreGivenAndTakenBack();
        threeVotesBan();
        votesAreByVariant();
        endlessGamesBanForEver();
        endlessGamesAreByVariant();
        noGameBecomesEndlessWhileVoid();
        pointsOfWins();
        pointsOfDraws();
        pointsAreByVariant();
        pointsOfVoidGames();
        noPointsOfOpenGames();
        refusals();
        due.end();
    }

    private static void win(VariantMill x, int variant, int first, int second) {
        int game = x.begin(variant, first, second, Due.set(0), Due.set(1));
        due.is("8: won", VariantMill.FIRST_WON, () -> x.move(game, 0, 1));
    }

    private static void winOfSecond(VariantMill x, int variant, int first, int second) {
        int game = x.begin(variant, first, second, Due.set(0), Due.set(2));
        x.move(game, 0, 1);
        due.is("8: won by the second one", VariantMill.SECOND_WON, () -> x.move(game, 2, 1));
    }

    private static int begin(VariantMill x, int variant, int first, int second) {
        return x.begin(variant, first, second, Due.set(0), Due.set(24));
    }

    private static void endless(VariantMill x, int variant, int first, int second) {
        int game = begin(x, variant, first, second);
        due.is("8: endless", VariantMill.DRAWN, () -> FourWays.toAndFro(x, game, 0, 8));
    }

    private static void sixtyMoves(VariantMill x, int variant, int first, int second) {
        int game = begin(x, variant, first, second);
        due.is("8: sixty moves", VariantMill.DRAWN, () -> FourWays.walk(x, game, 60));
        due.is("11: sixty moves", 60, () -> x.made(game));
    }

    private static void votesAreGivenAndTakenBack() {
        VariantMill x = FourWays.variants(0, 0);
        due.is("14: a vote", 1, () -> x.vote(0, 0));
        due.is("14: taken back", 0, () -> x.vote(0, 0));
        due.is("14: given again", 1, () -> x.vote(0, 0));
        for (int player = 1; player < 5; player++) {
            int one = player;
            due.is("14: one more", one + 1, () -> x.vote(one, 0));
        }
        for (int player = 0; player < 5; player++) {
            int one = player;
            due.is("14: one less", 4 - one, () -> x.vote(one, 0));
        }
    }

    private static void threeVotesBan() {
        VariantMill x = FourWays.variants(0, 0);
        due.holds("15: no vote", false, () -> x.isBanned(0));
        x.vote(4, 0);
        due.holds("15: one vote", false, () -> x.isBanned(0));
        x.vote(2, 0);
        due.holds("15: two votes", false, () -> x.isBanned(0));
        x.vote(0, 0);
        due.holds("15: three votes", true, () -> x.isBanned(0));
        x.vote(1, 0);
        x.vote(3, 0);
        due.holds("15: five votes", true, () -> x.isBanned(0));
        x.vote(0, 0);
        x.vote(4, 0);
        due.holds("15: three are left", true, () -> x.isBanned(0));
        x.vote(1, 0);
        due.holds("15: two are left", false, () -> x.isBanned(0));
        due.is("15: and games begin again", 0, () -> begin(x, 0, 0, 1));
    }

    private static void votesAreByVariant() {
        VariantMill x = FourWays.variants(0, 0);
        FourWays.threeVotes(x, 1);
        due.holds("15: the one that they vote for", true, () -> x.isBanned(1));
        due.holds("15: the other one", false, () -> x.isBanned(0));
        due.is("14: the other one has no votes", 1, () -> x.vote(3, 0));
        due.is("5: a game of the other one", 0, () -> begin(x, 0, 0, 1));
        due.refuses("5: none of the banned one", Due.STATE, () -> begin(x, 1, 0, 1));
    }

    private static void endlessGamesBanForEver() {
        VariantMill x = FourWays.variants(0, 0);
        due.is("16: none", 0, () -> x.endless(0));
        int open = begin(x, 0, 3, 4);
        endless(x, 0, 0, 1);
        due.is("16: one", 1, () -> x.endless(0));
        due.holds("15: one endless game is no ban", false, () -> x.isBanned(0));
        endless(x, 0, 0, 1);
        due.is("16: two", 2, () -> x.endless(0));
        due.holds("15: two endless games ban", true, () -> x.isBanned(0));
        due.refuses("5: banned", Due.STATE, () -> begin(x, 0, 0, 1));
        due.refuses("8: void", Due.STATE, () -> x.move(open, 0, 1));
        due.is("9: open, though void", VariantMill.OPEN, () -> x.state(open));
        due.is("9: drawn, though void", VariantMill.DRAWN, () -> x.state(open + 1));
        FourWays.threeVotes(x, 0);
        FourWays.threeVotes(x, 0);
        due.holds("15: for ever", true, () -> x.isBanned(0));
        due.is("16: still two", 2, () -> x.endless(0));
    }

    private static void endlessGamesAreByVariant() {
        VariantMill x = FourWays.variants(0, 0);
        endless(x, 0, 0, 1);
        endless(x, 1, 0, 1);
        due.is("16: one of the one", 1, () -> x.endless(0));
        due.is("16: one of the other", 1, () -> x.endless(1));
        due.holds("15: neither is banned", false, () -> x.isBanned(0) || x.isBanned(1));
        endless(x, 1, 0, 1);
        due.holds("15: the other is banned", true, () -> x.isBanned(1));
        due.holds("15: the one is not", false, () -> x.isBanned(0));
    }

    private static void noGameBecomesEndlessWhileVoid() {
        VariantMill x = FourWays.variants(0, 0);
        int game = begin(x, 0, 0, 1);
        FourWays.toAndFro(x, game, 0, 7);
        FourWays.threeVotes(x, 0);
        due.refuses("8: void", Due.STATE, () -> x.move(game, 23, 24));
        due.is("16: not endless", 0, () -> x.endless(0));
        x.vote(0, 0);
        due.is("8: no longer void", VariantMill.DRAWN, () -> x.move(game, 23, 24));
        due.is("16: endless now", 1, () -> x.endless(0));
    }

    private static void pointsAre(String what, VariantMill x, int variant, int... dues) {
        for (int player = 0; player < dues.length; player++) {
            int one = player;
            due.is("17: " + what + ", player " + one, dues[one], () -> x.points(one, variant));
        }
    }

    private static void pointsOfWins() {
        VariantMill x = FourWays.variants(0, 0);
        pointsAre("no games", x, 0, 0, 0, 0, 0, 0);
        win(x, 0, 4, 3);
        pointsAre("the first one has won", x, 0, 0, 0, 0, 0, 3);
        winOfSecond(x, 0, 4, 3);
        pointsAre("the second one has won", x, 0, 0, 0, 0, 3, 3);
        win(x, 0, 4, 0);
        winOfSecond(x, 0, 1, 4);
        pointsAre("three wins of one player", x, 0, 0, 0, 0, 3, 9);
    }

    private static void pointsOfDraws() {
        VariantMill x = FourWays.variants(0, 0);
        endless(x, 0, 2, 0);
        pointsAre("an endless one", x, 0, 1, 0, 1, 0, 0);
        sixtyMoves(x, 0, 2, 3);
        pointsAre("sixty moves", x, 0, 1, 0, 2, 1, 0);
        due.is("16: sixty moves are not endless", 1, () -> x.endless(0));
        win(x, 0, 2, 3);
        pointsAre("and a win", x, 0, 1, 0, 5, 1, 0);
    }

    private static void pointsAreByVariant() {
        VariantMill x = FourWays.variants(0, 0);
        win(x, 0, 0, 1);
        win(x, 1, 1, 0);
        endless(x, 1, 1, 2);
        pointsAre("of the one", x, 0, 3, 0, 0, 0, 0);
        pointsAre("of the other", x, 1, 0, 4, 1, 0, 0);
        FourWays.threeVotes(x, 0);
        pointsAre("of the banned one", x, 0, 0, 0, 0, 0, 0);
        pointsAre("of the one not banned", x, 1, 0, 4, 1, 0, 0);
    }

    private static void pointsOfVoidGames() {
        VariantMill x = FourWays.variants(0, 0);
        win(x, 0, 0, 1);
        endless(x, 0, 0, 1);
        pointsAre("ahead of the ban", x, 0, 4, 1, 0, 0, 0);
        FourWays.threeVotes(x, 0);
        pointsAre("void", x, 0, 0, 0, 0, 0, 0);
        x.vote(1, 0);
        pointsAre("no longer void", x, 0, 4, 1, 0, 0, 0);
        endless(x, 0, 0, 1);
        pointsAre("void for ever", x, 0, 0, 0, 0, 0, 0);
    }

    private static void noPointsOfOpenGames() {
        VariantMill x = FourWays.variants(0, 0);
        int game = begin(x, 0, 0, 1);
        FourWays.toAndFro(x, game, 0, 7);
        pointsAre("an open game", x, 0, 0, 0, 0, 0, 0);
    }

    private static void refusals() {
        VariantMill x = FourWays.variants(0, 0);
        x.vote(0, 0);
        x.vote(1, 0);
        for (int none : NO_VARIANTS) {
            due.refuses("14: no variant", Due.INDEX, () -> x.vote(2, none));
            due.refuses("15: no variant", Due.INDEX, () -> x.isBanned(none) ? 1 : 0);
            due.refuses("16: no variant", Due.INDEX, () -> x.endless(none));
            due.refuses("17: no variant", Due.INDEX, () -> x.points(0, none));
        }
        for (int none : NO_PLAYERS) {
            due.refuses("14: no player", Due.INDEX, () -> x.vote(none, 0));
            due.refuses("17: no player", Due.INDEX, () -> x.points(none, 0));
            due.refuses("14: neither", Due.INDEX, () -> x.vote(none, 4));
            due.refuses("17: neither", Due.INDEX, () -> x.points(none, 4));
        }
        due.holds("14: refused votes do not count", false, () -> x.isBanned(0));
        due.is("14: two votes as ahead of them", 3, () -> x.vote(2, 0));
    }
}
