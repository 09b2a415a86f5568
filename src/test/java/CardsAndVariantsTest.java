/** Promises 1 to 4: a new object, card, variant, setCards. */
public final class CardsAndVariantsTest {
    private static final Due due = new Due();
    private static final int[] FAR = {Integer.MIN_VALUE, Integer.MAX_VALUE, -256, 256};

    public static void main(String[] args) {
        newObject();
        cardNumbersAndRanges();
        cardRefusalsInOrder();
        leapCards();
        slideCards();
        hopCards();
        secondGoesTheOtherWay();
        variantNumbersAndRanges();
        variantRefusalsInOrder();
        setCardsCountsForLaterGames();
        setCardsRefusals();
        due.end();
    }

    private static void newObject() {
        VariantMill x = new VariantMill();
        due.refuses("1: no variant", Due.INDEX, () -> x.endless(0));
        due.refuses("1: no variant is banned", Due.INDEX, () -> x.isBanned(0) ? 1 : 0);
        due.refuses("1: no points", Due.INDEX, () -> x.points(0, 0));
        due.refuses("1: no game", Due.INDEX, () -> x.state(0));
        due.refuses("1: no card", Due.ARGUMENT, () -> x.variant(0, 1));
        due.is("1: first card", 0, () -> x.card(VariantMill.LEAP, 1, 0, 1));
        due.is("1: first variant", 0, () -> x.variant(0, 1));
        due.is("1: first game", 0, () -> x.begin(0, 0, 1, 1, 16));
        VariantMill y = new VariantMill();
        due.refuses("1: another object has none of that", Due.INDEX, () -> y.state(0));
    }

    private static void cardNumbersAndRanges() {
        VariantMill x = new VariantMill();
        int[][] cards = {{0, -2, -2, 1}, {1, 2, 2, 4}, {2, 0, 2, 1}, {0, 2, 0, 4},
            {0, 0, -2, 2}, {1, -2, 0, 3}, {2, 1, -1, 4}, {2, 1, -1, 4}};
        for (int i = 0; i < cards.length; i++) {
            int[] c = cards[i];
            due.is("2: card " + i, i, () -> x.card(c[0], c[1], c[2], c[3]));
        }
        due.refuses("2: a ninth card", Due.STATE, () -> x.card(0, 1, 1, 1));
        due.refuses("2: a ninth card again", Due.STATE, () -> x.card(2, -2, 2, 4));
        due.is("2: all eight are there", 0, () -> x.variant(0, 255));
        due.refuses("2: the ninth is not", Due.ARGUMENT, () -> x.variant(0, 256));
    }

    private static void cardRefusalsInOrder() {
        VariantMill x = new VariantMill();
        int[][] bad = {{-1, 1, 1, 1}, {3, 1, 1, 1}, {0, -3, 1, 1}, {0, 3, 1, 1}, {0, 1, -3, 1},
            {0, 1, 3, 1}, {1, 1, 1, 0}, {1, 1, 1, 5}, {0, 1, 1, 0}, {0, 1, 1, 5}, {0, 0, 0, 1},
            {1, 0, 0, 4}, {2, 1, 1, -1}};
        for (int[] c : bad) {
            due.refuses("2: a card out of range", Due.ARGUMENT, () -> x.card(c[0], c[1], c[2], c[3]));
        }
        for (int far : FAR) {
            due.refuses("2: kind " + far, Due.ARGUMENT, () -> x.card(far, 1, 1, 1));
            due.refuses("2: dx " + far, Due.ARGUMENT, () -> x.card(0, far, 1, 1));
            due.refuses("2: dy " + far, Due.ARGUMENT, () -> x.card(0, 1, far, 1));
            due.refuses("2: reach " + far, Due.ARGUMENT, () -> x.card(0, 1, 1, far));
        }
        due.refuses("2: refused cards are not there", Due.ARGUMENT, () -> x.variant(0, 1));
        for (int i = 0; i < 8; i++) {
            int number = i;
            due.is("2: refused cards took no number", number, () -> x.card(0, 1, 0, 1));
        }
        for (int[] c : bad) {
            due.refuses("2: the range decides first", Due.ARGUMENT,
                    () -> x.card(c[0], c[1], c[2], c[3]));
        }
    }

    /** A game by one card: the first one's pieces, the second one's and the holes are given. */
    private static VariantMill game(int kind, int dx, int dy, int reach, int own, int other,
            int holes) {
        VariantMill x = new VariantMill();
        x.card(kind, dx, dy, reach);
        x.variant(holes, 1);
        x.begin(0, 0, 1, own, other);
        return x;
    }

    /** Looks at all cells to which the piece on a cell goes, by both ways of asking. */
    private static void goesTo(String what, VariantMill x, int from, int ends) {
        for (int to = 0; to < 25; to++) {
            int cell = to;
            boolean isEnd = (ends >> cell & 1) != 0;
            due.holds(what + ", to " + cell, isEnd, () -> x.can(0, from, cell));
            due.holds(what + ", by all, to " + cell, isEnd, () -> x.canByAll(0, from, cell));
        }
    }

    private static void leapCards() {
        int far = Due.set(24);
        goesTo("2: LEAP goes one step whatever the reach", game(0, 1, 0, 4, Due.set(0), far, 0),
                0, Due.set(1));
        goesTo("2: LEAP over pieces and holes",
                game(0, 2, 2, 1, Due.set(0, 1), Due.set(6, 24), Due.set(5)), 0, Due.set(12));
        goesTo("2: LEAP takes", game(0, 0, 1, 1, Due.set(0), Due.set(5), 0), 0, Due.set(5));
        goesTo("2: LEAP not to an own piece", game(0, 0, 1, 1, Due.set(0, 5), far, 0), 0, 0);
        goesTo("2: LEAP not to a hole",
                game(0, 0, 1, 1, Due.set(0, 1), far, Due.set(5)), 0, 0);
        goesTo("2: LEAP not round the right edge", game(0, 1, 1, 1, Due.set(0, 4), far, 0), 4, 0);
        goesTo("2: LEAP not round the left edge", game(0, -1, 0, 1, Due.set(5, 7), far, 0), 5, 0);
        goesTo("2: LEAP not above the board", game(0, 0, -2, 1, Due.set(5, 12), far, 0), 5, 0);
        goesTo("2: LEAP not below the board", game(0, 0, 2, 1, Due.set(17, 2), far, 0), 17, 0);
        goesTo("2: no piece, no move", game(0, 1, 0, 1, Due.set(0), far, 0), 5, 0);
        goesTo("2: the other one's piece does not move",
                game(0, -1, 0, 1, Due.set(1), far, 0), 24, 0);
    }

    private static void slideCards() {
        int far = Due.set(24);
        goesTo("2: SLIDE to the edge", game(1, 1, 0, 4, Due.set(0), far, 0), 0,
                Due.set(1, 2, 3, 4));
        goesTo("2: SLIDE as far as the reach", game(1, 0, 1, 3, Due.set(2), far, 0), 2,
                Due.set(7, 12, 17));
        goesTo("2: SLIDE of the reach 1", game(1, 1, 1, 1, Due.set(0), far, 0), 0, Due.set(6));
        goesTo("2: SLIDE stops where it takes",
                game(1, 1, 0, 4, Due.set(0), Due.set(2), 0), 0, Due.set(1, 2));
        goesTo("2: SLIDE stops ahead of an own piece",
                game(1, 1, 0, 4, Due.set(0, 3), far, 0), 0, Due.set(1, 2));
        goesTo("2: SLIDE stops ahead of a hole",
                game(1, 0, 1, 4, Due.set(0), far, Due.set(15)), 0, Due.set(5, 10));
        goesTo("2: SLIDE by long steps looks at its own cells alone",
                game(1, 2, 1, 4, Due.set(0, 1), Due.set(2, 6, 24), Due.set(5)), 0,
                Due.set(7, 14));
        goesTo("2: SLIDE leaves the board for good", game(1, 2, 2, 4, Due.set(7, 0), far, 0), 7,
                Due.set(19));
    }

    private static void hopCards() {
        int far = Due.set(24);
        goesTo("2: HOP over an own piece", game(2, 1, 0, 2, Due.set(0, 1), far, 0), 0,
                Due.set(2));
        goesTo("2: HOP over the other one's piece",
                game(2, 1, 0, 4, Due.set(0), Due.set(2), 0), 0, Due.set(3));
        goesTo("2: HOP takes behind it", game(2, 1, 0, 4, Due.set(0, 1), Due.set(2), 0), 0,
                Due.set(2));
        goesTo("2: HOP not onto an own piece",
                game(2, 1, 0, 4, Due.set(0, 1, 2), far, 0), 0, 0);
        goesTo("2: HOP over the last cell it may",
                game(2, 1, 0, 4, Due.set(0), Due.set(3), 0), 0, Due.set(4));
        goesTo("2: HOP too far for the reach",
                game(2, 1, 0, 3, Due.set(0, 5, 6), Due.set(3), 0), 0, 0);
        goesTo("2: HOP of the reach 2 over the nearest alone",
                game(2, 1, 0, 2, Due.set(0, 5, 6), Due.set(2), 0), 0, 0);
        goesTo("2: HOP past two pieces is none",
                game(2, 1, 0, 4, Due.set(0, 1, 2), far, 0), 0, 0);
        goesTo("2: HOP without a piece to pass is none",
                game(2, 1, 0, 4, Due.set(0, 5, 6), far, 0), 0, 0);
        goesTo("2: HOP over a hole is none",
                game(2, 1, 0, 4, Due.set(0, 2, 5, 6), far, Due.set(1)), 0, 0);
        goesTo("2: HOP into a hole is none",
                game(2, 1, 0, 4, Due.set(0, 2, 5, 6), far, Due.set(3)), 0, 0);
        goesTo("2: HOP off the board is none",
                game(2, 1, 0, 4, Due.set(3, 4, 5, 6), far, 0), 3, 0);
        VariantMill near = new VariantMill();
        near.card(2, 1, 0, 1);
        near.variant(0, 1);
        due.refuses("2: HOP of the reach 1 never goes", Due.STATE,
                () -> near.begin(0, 0, 1, Due.set(0, 1), Due.set(2)));
    }

    private static void secondGoesTheOtherWay() {
        VariantMill x = new VariantMill();
        x.card(0, 1, 2, 1);
        x.variant(0, 1);
        x.begin(0, 0, 1, Due.set(0), Due.set(22));
        x.move(0, 0, 11);
        goesTo("2: dy is -dy and dx is dx for the second one", x, 22, Due.set(13));
        VariantMill y = game(1, 0, -1, 4, Due.set(24), Due.set(0), 0);
        y.move(0, 24, 19);
        goesTo("2: the second one slides the other way too", y, 0, Due.set(5, 10, 15, 20));
    }

    private static void variantNumbersAndRanges() {
        VariantMill x = new VariantMill();
        x.card(0, 1, 0, 1);
        x.card(1, 0, 1, 4);
        due.is("3: variant 0", 0, () -> x.variant(0, 3));
        due.is("3: variant 1, all holes", 1, () -> x.variant(33554431, 1));
        due.is("3: variant 2", 2, () -> x.variant(Due.set(5), 2));
        due.is("3: variant 3", 3, () -> x.variant(0, 3));
        due.refuses("3: a fifth variant", Due.STATE, () -> x.variant(0, 3));
        due.refuses("3: a fifth variant is not there", Due.INDEX, () -> x.endless(4));
        due.refuses("3: no pieces on holes", Due.ARGUMENT, () -> x.begin(1, 0, 1, 1, 2));
        due.refuses("3: just that hole", Due.ARGUMENT, () -> x.begin(2, 0, 1, Due.set(5), 2));
        due.is("3: beside the hole", 0, () -> x.begin(2, 0, 1, Due.set(6), 2));
        due.holds("3: the second card is of it", true, () -> x.can(0, 6, 21));
        due.holds("3: the first card is not", false, () -> x.can(0, 6, 7));
        due.holds("3: not banned", false, () -> x.isBanned(0));
        due.is("3: none endless", 0, () -> x.endless(0));
    }

    private static void variantRefusalsInOrder() {
        VariantMill x = new VariantMill();
        x.card(0, 1, 0, 1);
        x.card(0, 0, 1, 1);
        int[][] bad = {{-1, 1}, {33554432, 1}, {0, 0}, {0, -1}, {0, 4}, {0, 5}, {0, 7}, {-1, 0},
            {Integer.MIN_VALUE, 1}, {Integer.MAX_VALUE, 1}, {0, Integer.MIN_VALUE},
            {0, Integer.MAX_VALUE}, {0, 256}};
        for (int[] v : bad) {
            due.refuses("3: out of range", Due.ARGUMENT, () -> x.variant(v[0], v[1]));
        }
        due.refuses("3: refused variants are not there", Due.INDEX, () -> x.endless(0));
        for (int i = 0; i < 4; i++) {
            int number = i;
            due.is("3: refused variants took no number", number, () -> x.variant(0, 3));
        }
        for (int[] v : bad) {
            due.refuses("3: the range decides first", Due.ARGUMENT, () -> x.variant(v[0], v[1]));
        }
    }

    private static void setCardsCountsForLaterGames() {
        VariantMill x = new VariantMill();
        x.card(0, 1, 0, 1);
        x.variant(Due.set(12), 1);
        x.variant(0, 1);
        x.begin(0, 0, 1, Due.set(0), Due.set(24));
        x.card(0, 0, 1, 1);
        due.is("4: the set before", 1, () -> x.setCards(0, 2));
        due.is("4: the set before that", 2, () -> x.setCards(0, 3));
        due.is("4: and once more", 3, () -> x.setCards(0, 2));
        due.is("4: another variant has its own", 1, () -> x.setCards(1, 1));
        due.holds("4: the old game keeps its card", true, () -> x.can(0, 0, 1));
        due.holds("4: the old game has no other", false, () -> x.can(0, 0, 5));
        due.is("4: a new game", 1, () -> x.begin(0, 0, 1, Due.set(0), Due.set(24)));
        due.holds("4: the new game has the new card", true, () -> x.can(1, 0, 5));
        due.holds("4: the new game has not the old one", false, () -> x.canByAll(1, 0, 1));
        due.is("4: the old game is searched by its card", 100, () -> x.value(0, 1));
        due.is("4: the new game by the new one", 0, () -> x.value(1, 1));
        due.refuses("4: the holes stay", Due.ARGUMENT, () -> x.begin(0, 0, 1, Due.set(12), 2));
    }

    private static void setCardsRefusals() {
        VariantMill x = new VariantMill();
        x.card(0, 1, 0, 1);
        x.variant(0, 1);
        int[] noVariants = {-1, 1, 4, Integer.MIN_VALUE, Integer.MAX_VALUE};
        for (int variant : noVariants) {
            due.refuses("4: no variant " + variant, Due.INDEX, () -> x.setCards(variant, 1));
            due.refuses("4: the variant decides first", Due.INDEX, () -> x.setCards(variant, 0));
        }
        int[] noCards = {0, -1, 2, 3, Integer.MIN_VALUE, Integer.MAX_VALUE};
        for (int cards : noCards) {
            due.refuses("4: no cards " + cards, Due.ARGUMENT, () -> x.setCards(0, cards));
        }
        due.is("4: refused sets change nothing", 1, () -> x.setCards(0, 1));
    }
}
