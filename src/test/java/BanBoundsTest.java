/** Promises 14 to 17: one test for each sentence that names a bound; the sentence stands above it. */
public final class BanBoundsTest {
    private static final Due due = new Due();
    private static final int OWN = Due.set(0);
    private static final int OTHER = Due.set(24);
    private static final int[] FAR = {Integer.MIN_VALUE, Integer.MIN_VALUE + 1, Integer.MAX_VALUE,
        -256, -255, 256, 257, 32, 33, 1 << 30};

    public static void main(String[] args) {
        players();
        variants();
        votesLeastAndMost();
        voteIsTakenBack();
        voteOfEachPlayer();
        twoAndThreeVotes();
        everyThreePlayers();
        oneAndTwoEndlessGames();
        forEver();
        votesGoOnForEver();
        endlessLeastAndMost();
        sixtyMovesAreNotEndless();
        winsAreNotEndless();
        endlessOfTwoVariants();
        endlessWhileVoid();
        pointsWithoutGames();
        pointsOfOpenGames();
        pointsOfWins();
        pointsOfDraws();
        pointsOfTwelveWins();
        pointsOfVoidGames();
        pointsVoidForEver();
        pointsOfTwoVariants();
        lastOfAllCalls();
        due.end();
    }

    private static VariantMill variants(int count) {
        return FourWays.variants(new int[count]);
    }

    private static int begin(VariantMill x, int variant, int first, int second) {
        return x.begin(variant, first, second, OWN, OTHER);
    }

    private static void endless(VariantMill x, int variant, int first, int second) {
        FourWays.toAndFro(x, begin(x, variant, first, second), 0, 8);
    }

    private static void sixtyMoves(VariantMill x, int variant, int first, int second) {
        FourWays.walk(x, begin(x, variant, first, second), 60);
    }

    private static void win(VariantMill x, int variant, int first, int second) {
        x.move(x.begin(variant, first, second, OWN, Due.set(1)), 0, 1);
    }

    private static void winOfSecond(VariantMill x, int variant, int first, int second) {
        int game = x.begin(variant, first, second, OWN, Due.set(2));
        x.move(game, 0, 1);
        x.move(game, 2, 1);
    }

    private static void pointsAre(String what, VariantMill x, int variant, int... answers) {
        for (int player = 0; player < 5; player++) {
            int one = player;
            due.is("17: " + what + ", player " + one, answers[one], () -> x.points(one, variant));
        }
    }

    // ---- no such player, no such variant

    private static void noPlayer(int player) {
        due.refuses("14: no player " + player, Due.INDEX, () -> variants(1).vote(player, 0));
        due.refuses("17: no player " + player, Due.INDEX, () -> variants(1).points(player, 0));
        due.refuses("14: nor a variant " + player, Due.INDEX, () -> variants(1).vote(player, 1));
        due.refuses("17: nor a variant " + player, Due.INDEX, () -> variants(1).points(player, 1));
    }

    /** "player: 0 to 4", "IndexOutOfBoundsException if there is no such player". */
    private static void players() {
        noPlayer(-1);
        for (int player = 0; player <= 4; player++) {
            int one = player;
            due.is("14: the player " + one, 1, () -> variants(1).vote(one, 0));
            due.is("17: the player " + one, 0, () -> variants(1).points(one, 0));
        }
        noPlayer(5);
        noPlayer(6);
        for (int far : FAR) {
            noPlayer(far);
        }
    }

    private static void noVariant(int count, int variant) {
        String what = "no variant " + variant + " of " + count;
        due.refuses("14: " + what, Due.INDEX, () -> variants(count).vote(0, variant));
        due.refuses("15: " + what, Due.INDEX, () -> variants(count).isBanned(variant) ? 1 : 0);
        due.refuses("16: " + what, Due.INDEX, () -> variants(count).endless(variant));
        due.refuses("17: " + what, Due.INDEX, () -> variants(count).points(0, variant));
    }

    /** "IndexOutOfBoundsException if there is no such .. variant", of none to four. */
    private static void variants() {
        for (int count = 0; count <= 4; count++) {
            int number = count;
            for (int variant = 0; variant < count; variant++) {
                int v = variant;
                due.is("14: the variant " + v, 1, () -> variants(number).vote(0, v));
                due.holds("15: the variant " + v, false, () -> variants(number).isBanned(v));
                due.is("16: the variant " + v, 0, () -> variants(number).endless(v));
                due.is("17: the variant " + v, 0, () -> variants(number).points(0, v));
            }
            noVariant(count, -1);
            noVariant(count, count);
            noVariant(count, 4);
            noVariant(count, 5);
            for (int far : FAR) {
                noVariant(count, far);
            }
        }
    }

    // ---- promise 14

    /** "Returns how many players vote for it then": 0 to 5. */
    private static void votesLeastAndMost() {
        VariantMill x = variants(2);
        for (int player = 0; player < 5; player++) {
            int one = player;
            due.is("14: one more", one + 1, () -> x.vote(one, 0));
        }
        for (int player = 0; player < 5; player++) {
            int one = player;
            due.is("14: one less", 4 - one, () -> x.vote(one, 0));
        }
        due.is("14: none of the other variant", 1, () -> x.vote(0, 1));
    }

    /** "or takes that back": the second time, and gives it again the third time. */
    private static void voteIsTakenBack() {
        VariantMill x = variants(1);
        for (int i = 0; i < 6; i++) {
            int time = i;
            due.is("14: the time " + time, 1 - time % 2, () -> x.vote(2, 0));
        }
    }

    /** "Each player can vote for a ban of each variant": four variants, five players, each apart. */
    private static void voteOfEachPlayer() {
        VariantMill x = variants(4);
        for (int variant = 0; variant < 4; variant++) {
            for (int player = 0; player <= variant; player++) {
                int v = variant;
                int one = player;
                due.is("14: " + one + " for " + v, one + 1, () -> x.vote(one, v));
            }
        }
        for (int variant = 0; variant < 4; variant++) {
            int v = variant;
            due.holds("15: " + (v + 1) + " votes for " + v, v >= 2, () -> x.isBanned(v));
            due.is("14: one more for " + v, v + 2, () -> x.vote(4, v));
        }
    }

    // ---- promise 15

    /** "banned, as long as three players or more vote for it": 0 to 5 votes, up and down. */
    private static void twoAndThreeVotes() {
        VariantMill x = variants(1);
        due.holds("15: no votes", false, () -> x.isBanned(0));
        for (int player = 0; player < 5; player++) {
            x.vote(player, 0);
            int votes = player + 1;
            due.holds("15: up to " + votes, votes >= 3, () -> x.isBanned(0));
        }
        for (int player = 0; player < 5; player++) {
            x.vote(player, 0);
            int votes = 4 - player;
            due.holds("15: down to " + votes, votes >= 3, () -> x.isBanned(0));
        }
    }

    /** "three players": any set of them. */
    private static void everyThreePlayers() {
        for (int set = 0; set < 32; set++) {
            VariantMill x = variants(1);
            for (int player = 0; player < 5; player++) {
                if ((set >> player & 1) != 0) {
                    x.vote(player, 0);
                }
            }
            boolean isBan = Integer.bitCount(set) >= 3;
            due.holds("15: votes of the set " + set, isBan, () -> x.isBanned(0));
        }
    }

    /** "and for ever, as soon as two games of it were endless": not with one. */
    private static void oneAndTwoEndlessGames() {
        VariantMill x = variants(1);
        int game = begin(x, 0, 0, 1);
        int next = begin(x, 0, 0, 1);
        due.holds("15: none", false, () -> x.isBanned(0));
        FourWays.toAndFro(x, game, 0, 8);
        due.holds("15: one", false, () -> x.isBanned(0));
        FourWays.toAndFro(x, next, 0, 7);
        due.holds("15: one, and nearly two", false, () -> x.isBanned(0));
        FourWays.toAndFro(x, next, 7, 8);
        due.holds("15: two", true, () -> x.isBanned(0));
    }

    /** "for ever": whatever is voted then. */
    private static void forEver() {
        VariantMill x = variants(1);
        endless(x, 0, 0, 1);
        endless(x, 0, 0, 1);
        for (int player = 0; player < 5; player++) {
            x.vote(player, 0);
            due.holds("15: one more vote", true, () -> x.isBanned(0));
        }
        for (int player = 0; player < 5; player++) {
            x.vote(player, 0);
            due.holds("15: one vote less", true, () -> x.isBanned(0));
        }
        x.setCards(0, 1);
        due.holds("15: other cards", true, () -> x.isBanned(0));
    }

    /** No line of its throws clause refuses a vote on what is banned. */
    private static void votesGoOnForEver() {
        VariantMill x = variants(1);
        endless(x, 0, 0, 1);
        endless(x, 0, 0, 1);
        due.is("14: banned for ever", 1, () -> x.vote(0, 0));
        due.is("14: banned for ever, one more", 2, () -> x.vote(1, 0));
        due.is("14: banned for ever, taken back", 1, () -> x.vote(0, 0));
    }

    // ---- promise 16

    /** "Returns how many": 0 to 2. */
    private static void endlessLeastAndMost() {
        VariantMill x = variants(1);
        due.is("16: none without games", 0, () -> x.endless(0));
        int open = begin(x, 0, 0, 1);
        due.is("16: none with an open one", 0, () -> x.endless(0));
        endless(x, 0, 0, 1);
        due.is("16: one", 1, () -> x.endless(0));
        endless(x, 0, 0, 1);
        due.is("16: two", 2, () -> x.endless(0));
        due.refuses("8: no third one", Due.STATE, () -> x.move(open, 0, 1));
        due.is("16: still two", 2, () -> x.endless(0));
    }

    /** "Otherwise, if 60 moves were made, it is DRAWN": that is not endless, and bans nothing. */
    private static void sixtyMovesAreNotEndless() {
        VariantMill x = variants(1);
        for (int i = 0; i < 3; i++) {
            sixtyMoves(x, 0, 0, 1);
            due.is("9: drawn", VariantMill.DRAWN, () -> x.state(0));
            due.is("16: none", 0, () -> x.endless(0));
            due.holds("15: no ban", false, () -> x.isBanned(0));
        }
    }

    /** "the one who moved has won. Otherwise": a win is not endless, and bans nothing. */
    private static void winsAreNotEndless() {
        VariantMill x = variants(1);
        for (int i = 0; i < 3; i++) {
            win(x, 0, 0, 1);
            winOfSecond(x, 0, 0, 1);
        }
        due.is("16: none", 0, () -> x.endless(0));
        due.holds("15: no ban", false, () -> x.isBanned(0));
    }

    /** "two games of it": one of each variant bans neither. */
    private static void endlessOfTwoVariants() {
        VariantMill x = variants(4);
        for (int variant = 0; variant < 4; variant++) {
            endless(x, variant, 0, 1);
        }
        for (int variant = 0; variant < 4; variant++) {
            int v = variant;
            due.is("16: one of " + v, 1, () -> x.endless(v));
            due.holds("15: no ban of " + v, false, () -> x.isBanned(v));
        }
        endless(x, 3, 0, 1);
        for (int variant = 0; variant < 4; variant++) {
            int v = variant;
            due.is("16: then of " + v, v == 3 ? 2 : 1, () -> x.endless(v));
            due.holds("15: then a ban of " + v, v == 3, () -> x.isBanned(v));
        }
    }

    /** "Returns how many games .. were endless", void ones too. */
    private static void endlessWhileVoid() {
        VariantMill x = variants(1);
        endless(x, 0, 0, 1);
        FourWays.threeVotes(x, 0);
        due.is("16: void", 1, () -> x.endless(0));
        FourWays.threeVotes(x, 0);
        due.is("16: no longer void", 1, () -> x.endless(0));
    }

    // ---- promise 17

    /** No games, no points. */
    private static void pointsWithoutGames() {
        pointsAre("no games", variants(1), 0, 0, 0, 0, 0, 0);
        VariantMill banned = variants(1);
        FourWays.threeVotes(banned, 0);
        pointsAre("no games, banned", banned, 0, 0, 0, 0, 0, 0);
    }

    /** Only games that were won or drawn give points: not behind seven moves, not behind 59. */
    private static void pointsOfOpenGames() {
        VariantMill x = variants(1);
        int game = begin(x, 0, 0, 1);
        pointsAre("at the beginning", x, 0, 0, 0, 0, 0, 0);
        FourWays.toAndFro(x, game, 0, 7);
        pointsAre("behind seven moves", x, 0, 0, 0, 0, 0, 0);
        FourWays.walk(x, begin(x, 0, 2, 3), 59);
        pointsAre("behind 59 moves", x, 0, 0, 0, 0, 0, 0);
    }

    /** "3 points of a variant for each game of it that the player has won", none for the one lost. */
    private static void pointsOfWins() {
        VariantMill x = variants(1);
        win(x, 0, 0, 4);
        pointsAre("0 as the first one", x, 0, 3, 0, 0, 0, 0);
        win(x, 0, 4, 0);
        pointsAre("4 as the first one", x, 0, 3, 0, 0, 0, 3);
        winOfSecond(x, 0, 0, 4);
        pointsAre("4 as the second one", x, 0, 3, 0, 0, 0, 6);
        winOfSecond(x, 0, 4, 0);
        pointsAre("0 as the second one", x, 0, 6, 0, 0, 0, 6);
    }

    /** "and 1 for each that is DRAWN", endless or behind 60 moves, for both, and none else. */
    private static void pointsOfDraws() {
        VariantMill x = variants(1);
        endless(x, 0, 0, 4);
        pointsAre("endless", x, 0, 1, 0, 0, 0, 1);
        sixtyMoves(x, 0, 4, 1);
        pointsAre("60 moves", x, 0, 1, 1, 0, 0, 2);
    }

    /** The most: twelve games won by one player. */
    private static void pointsOfTwelveWins() {
        VariantMill x = variants(1);
        for (int i = 0; i < 12; i++) {
            if (i % 2 == 0) {
                win(x, 0, 3, i % 3);
            } else {
                winOfSecond(x, 0, i % 3, 3);
            }
            int points = 3 * (i + 1);
            pointsAre("behind " + points, x, 0, 0, 0, 0, points, 0);
        }
    }

    /** "of those that are not void", "void as long as it is banned": with three votes, not with two. */
    private static void pointsOfVoidGames() {
        VariantMill x = variants(1);
        win(x, 0, 0, 1);
        endless(x, 0, 1, 2);
        x.vote(0, 0);
        x.vote(1, 0);
        pointsAre("two votes", x, 0, 3, 1, 1, 0, 0);
        x.vote(2, 0);
        pointsAre("three votes", x, 0, 0, 0, 0, 0, 0);
        x.vote(0, 0);
        pointsAre("two votes again", x, 0, 3, 1, 1, 0, 0);
    }

    /** "All games of a variant are void", for ever as soon as two were endless. */
    private static void pointsVoidForEver() {
        VariantMill x = variants(1);
        win(x, 0, 0, 1);
        endless(x, 0, 1, 2);
        pointsAre("one endless game", x, 0, 3, 1, 1, 0, 0);
        endless(x, 0, 1, 2);
        pointsAre("two endless games", x, 0, 0, 0, 0, 0, 0);
        FourWays.threeVotes(x, 0);
        FourWays.threeVotes(x, 0);
        pointsAre("for ever", x, 0, 0, 0, 0, 0, 0);
    }

    /** "points of a variant": of the first one and of the last one, each by itself. */
    private static void pointsOfTwoVariants() {
        VariantMill x = variants(4);
        win(x, 0, 0, 1);
        winOfSecond(x, 3, 0, 1);
        endless(x, 3, 0, 1);
        pointsAre("of 0", x, 0, 3, 0, 0, 0, 0);
        pointsAre("of 1", x, 1, 0, 0, 0, 0, 0);
        pointsAre("of 3", x, 3, 1, 4, 0, 0, 0);
        FourWays.threeVotes(x, 3);
        pointsAre("of 0, 3 banned", x, 0, 3, 0, 0, 0, 0);
        pointsAre("of 3, banned", x, 3, 0, 0, 0, 0, 0);
    }

    /** "An object is used for at most 512 calls": the last of them is answered as any other. */
    private static void lastOfAllCalls() {
        VariantMill x = new VariantMill();
        x.card(VariantMill.LEAP, 1, 0, 1);
        x.variant(0, 1);
        for (int call = 3; call <= 512; call++) {
            int odd = call % 2;
            due.is("14: the call " + call, odd, () -> x.vote(4, 0));
        }
        VariantMill y = new VariantMill();
        y.card(VariantMill.LEAP, 1, 0, 1);
        y.card(VariantMill.LEAP, 0, 1, 1);
        y.variant(0, 1);
        for (int call = 4; call <= 512; call++) {
            int before = call % 2 == 0 ? 1 : 2;
            due.is("4: the call " + call, before, () -> y.setCards(0, 3 - before));
        }
    }
}
