/** Promises 1 to 4: one test for each sentence that names a bound; the sentence stands above it. */
public final class CardBoundsTest {
    private static final Due due = new Due();
    private static final int MOST_HOLES = 33554431;
    /** Numbers that come into a small range if they are cut, wrapped round or made positive. */
    private static final int[] FAR = {Integer.MIN_VALUE, Integer.MIN_VALUE + 1, Integer.MAX_VALUE,
        Integer.MAX_VALUE - 1, -65535, 65537, -255, 257, 258, 1 << 25 | 1, 1 << 30 | 1};

    public static void main(String[] args) {
        newObjectHasNoCards();
        newObjectHasNoVariants();
        newObjectHasNoGames();
        objectsStandApart();
        kinds();
        columns();
        rows();
        reaches();
        notBothZero();
        allCardsInAndAroundTheRanges();
        cardNumbers();
        eightCards();
        rangeAheadOfEightCards();
        holes();
        cardsBelowOne();
        cardsThatThereAreNot();
        variantNumbers();
        fourVariants();
        rangeAheadOfFourVariants();
        setCardsOfNoVariant();
        setCardsBelowOne();
        setCardsThatThereAreNot();
        setCardsVariantAheadOfCards();
        setCardsReturnsTheSetBefore();
        setCardsForGamesFromNowOn();
        setCardsOfBannedVariant();
        due.end();
    }

    private static VariantMill withCards(int count) {
        VariantMill x = new VariantMill();
        for (int i = 0; i < count; i++) {
            x.card(VariantMill.LEAP, 1, 0, 1);
        }
        return x;
    }

    private static VariantMill withVariants(int count) {
        VariantMill x = withCards(1);
        for (int i = 0; i < count; i++) {
            x.variant(0, 1);
        }
        return x;
    }

    private static void cardIs(int answer, int kind, int dx, int dy, int reach) {
        due.is("2: card " + kind + " " + dx + " " + dy + " " + reach, answer,
                () -> new VariantMill().card(kind, dx, dy, reach));
    }

    private static void noCard(int kind, int dx, int dy, int reach) {
        due.refuses("2: card " + kind + " " + dx + " " + dy + " " + reach, Due.ARGUMENT,
                () -> new VariantMill().card(kind, dx, dy, reach));
    }

    // ---- promise 1: "No cards, variants and games."

    private static void newObjectHasNoCards() {
        for (int card = 0; card < 32; card++) {
            int set = 1 << card;
            due.refuses("1: no card " + card, Due.ARGUMENT, () -> new VariantMill().variant(0, set));
        }
        due.is("1: the first card is 0", 0, () -> new VariantMill().card(0, 1, 0, 1));
    }

    private static void newObjectHasNoVariants() {
        for (int variant = 0; variant <= 4; variant++) {
            int v = variant;
            due.refuses("1: no setCards " + v, Due.INDEX, () -> new VariantMill().setCards(v, 1));
            due.refuses("1: no begin " + v, Due.INDEX, () -> new VariantMill().begin(v, 0, 1, 1, 2));
            due.refuses("1: no vote " + v, Due.INDEX, () -> new VariantMill().vote(0, v));
            due.refuses("1: no isBanned " + v, Due.INDEX,
                    () -> new VariantMill().isBanned(v) ? 1 : 0);
            due.refuses("1: no endless " + v, Due.INDEX, () -> new VariantMill().endless(v));
            due.refuses("1: no points " + v, Due.INDEX, () -> new VariantMill().points(0, v));
        }
        due.is("1: the first variant is 0", 0, () -> withCards(1).variant(0, 1));
    }

    private static void newObjectHasNoGames() {
        for (int game = 0; game <= 12; game++) {
            int g = game;
            due.refuses("1: no can " + g, Due.INDEX, () -> new VariantMill().can(g, 0, 1) ? 1 : 0);
            due.refuses("1: no canByAll " + g, Due.INDEX,
                    () -> new VariantMill().canByAll(g, 0, 1) ? 1 : 0);
            due.refuses("1: no move " + g, Due.INDEX, () -> new VariantMill().move(g, 0, 1));
            due.refuses("1: no state " + g, Due.INDEX, () -> new VariantMill().state(g));
            due.refuses("1: no pieces " + g, Due.INDEX, () -> new VariantMill().pieces(g, false));
            due.refuses("1: no made " + g, Due.INDEX, () -> new VariantMill().made(g));
            due.refuses("1: no value " + g, Due.INDEX, () -> new VariantMill().value(g, 0));
            due.refuses("1: no valueByAll " + g, Due.INDEX, () -> new VariantMill().valueByAll(g, 0));
        }
        due.is("1: the first game is 0", 0, () -> withVariants(1).begin(0, 0, 1, 1, 2));
    }

    private static void objectsStandApart() {
        VariantMill full = withCards(8);
        for (int i = 0; i < 4; i++) {
            full.variant(0, 1);
        }
        for (int i = 0; i < 12; i++) {
            full.begin(0, 0, 1, 1, 2);
        }
        VariantMill x = new VariantMill();
        due.refuses("1: another object has no game", Due.INDEX, () -> x.state(0));
        due.refuses("1: another object has no variant", Due.INDEX, () -> x.endless(0));
        due.refuses("1: another object has no card", Due.ARGUMENT, () -> x.variant(0, 1));
        due.is("1: its first card", 0, () -> x.card(0, 1, 0, 1));
        due.is("1: its first variant", 0, () -> x.variant(0, 1));
        due.is("1: its first game", 0, () -> x.begin(0, 0, 1, 1, 2));
    }

    // ---- promise 2

    /** "kind: LEAP, SLIDE or HOP". */
    private static void kinds() {
        noCard(-1, 1, 1, 1);
        cardIs(0, 0, 1, 1, 1);
        cardIs(0, 1, 1, 1, 1);
        cardIs(0, 2, 1, 1, 1);
        noCard(3, 1, 1, 1);
        for (int far : FAR) {
            noCard(far, 1, 1, 1);
        }
    }

    /** "dx: -2 to 2". */
    private static void columns() {
        noCard(0, -3, 1, 1);
        for (int dx = -2; dx <= 2; dx++) {
            cardIs(0, 0, dx, 1, 1);
        }
        noCard(0, 3, 1, 1);
        noCard(0, 3, 0, 1);
        noCard(0, -3, 0, 1);
        for (int far : FAR) {
            noCard(0, far, 1, 1);
            noCard(0, far, 0, 1);
        }
    }

    /** "dy: -2 to 2". */
    private static void rows() {
        noCard(0, 1, -3, 1);
        for (int dy = -2; dy <= 2; dy++) {
            cardIs(0, 0, 1, dy, 1);
        }
        noCard(0, 1, 3, 1);
        noCard(0, 0, 3, 1);
        noCard(0, 0, -3, 1);
        for (int far : FAR) {
            noCard(0, 1, far, 1);
            noCard(0, 0, far, 1);
        }
    }

    /** "reach: 1 to 4", of each kind, though of a LEAP "the reach does not matter". */
    private static void reaches() {
        for (int kind = 0; kind <= 2; kind++) {
            noCard(kind, 1, 1, -1);
            noCard(kind, 1, 1, 0);
            for (int reach = 1; reach <= 4; reach++) {
                cardIs(0, kind, 1, 1, reach);
            }
            noCard(kind, 1, 1, 5);
            for (int far : FAR) {
                noCard(kind, 1, 1, far);
            }
        }
    }

    /** "or dx and dy are both 0". */
    private static void notBothZero() {
        for (int kind = 0; kind <= 2; kind++) {
            for (int reach = 1; reach <= 4; reach++) {
                noCard(kind, 0, 0, reach);
                cardIs(0, kind, 0, 1, reach);
                cardIs(0, kind, 0, -1, reach);
                cardIs(0, kind, 1, 0, reach);
                cardIs(0, kind, -1, 0, reach);
            }
        }
    }

    /** "IllegalArgumentException if kind, dx, dy or reach is out of range, or dx and dy are both 0". */
    private static void allCardsInAndAroundTheRanges() {
        for (int kind = -1; kind <= 3; kind++) {
            for (int dx = -3; dx <= 3; dx++) {
                for (int dy = -3; dy <= 3; dy++) {
                    for (int reach = 0; reach <= 5; reach++) {
                        boolean isOut = kind == -1 || kind == 3 || dx == -3 || dx == 3 || dy == -3
                                || dy == 3 || reach == 0 || reach == 5 || dx == 0 && dy == 0;
                        if (isOut) {
                            noCard(kind, dx, dy, reach);
                        } else {
                            cardIs(0, kind, dx, dy, reach);
                        }
                    }
                }
            }
        }
    }

    /** "Cards are numbered from 0", "Returns its number." The same card again is another one. */
    private static void cardNumbers() {
        VariantMill x = new VariantMill();
        for (int i = 0; i < 8; i++) {
            int number = i;
            due.is("2: the number " + number, number, () -> x.card(1, 1, 1, 1));
        }
    }

    /** "at most 8", "IllegalStateException if there are 8". */
    private static void eightCards() {
        due.is("2: the eighth card", 7, () -> withCards(7).card(2, -2, -2, 4));
        due.refuses("2: a ninth card", Due.STATE, () -> withCards(8).card(2, -2, -2, 4));
        VariantMill x = withCards(8);
        for (int i = 0; i < 3; i++) {
            due.refuses("2: a ninth card, time " + i, Due.STATE, () -> x.card(0, 1, 0, 1));
        }
        due.refuses("2: the card 8 is not there", Due.ARGUMENT, () -> x.variant(0, 1 << 8));
        due.is("2: the card 7 is there", 0, () -> x.variant(0, 1 << 7));
    }

    /** "The first line of a method's throws clause that applies decides". */
    private static void rangeAheadOfEightCards() {
        int[][] bad = {{-1, 1, 1, 1}, {3, 1, 1, 1}, {0, -3, 1, 1}, {0, 3, 1, 1}, {0, 1, -3, 1},
            {0, 1, 3, 1}, {0, 1, 1, 0}, {0, 1, 1, 5}, {0, 0, 0, 1}};
        for (int[] c : bad) {
            due.refuses("2: out of range, and there are 8", Due.ARGUMENT,
                    () -> withCards(8).card(c[0], c[1], c[2], c[3]));
        }
    }

    // ---- promise 3

    /** "holes: 0 to 33554431: a set of cells". */
    private static void holes() {
        due.refuses("3: holes -1", Due.ARGUMENT, () -> withCards(1).variant(-1, 1));
        due.is("3: no holes", 0, () -> withCards(1).variant(0, 1));
        for (int cell = 0; cell < 25; cell++) {
            int hole = 1 << cell;
            due.is("3: the hole " + cell, 0, () -> withCards(1).variant(hole, 1));
        }
        for (int bit = 25; bit < 32; bit++) {
            int noHole = 1 << bit;
            due.refuses("3: the bit " + bit, Due.ARGUMENT, () -> withCards(1).variant(noHole, 1));
            due.refuses("3: the bit " + bit + " and a hole", Due.ARGUMENT,
                    () -> withCards(1).variant(noHole | 1, 1));
        }
        due.is("3: all cells but one", 0, () -> withCards(1).variant(MOST_HOLES - 1, 1));
        due.is("3: all cells", 0, () -> withCards(1).variant(MOST_HOLES, 1));
        due.refuses("3: one more", Due.ARGUMENT, () -> withCards(1).variant(MOST_HOLES + 1, 1));
        due.refuses("3: the least", Due.ARGUMENT,
                () -> withCards(1).variant(Integer.MIN_VALUE, 1));
        due.refuses("3: the greatest", Due.ARGUMENT,
                () -> withCards(1).variant(Integer.MAX_VALUE, 1));
    }

    /** "IllegalArgumentException if .. cards is below 1". */
    private static void cardsBelowOne() {
        int[] below = {0, -1, -2, -256, Integer.MIN_VALUE, Integer.MIN_VALUE + 1};
        for (int count = 0; count <= 8; count++) {
            int number = count;
            for (int cards : below) {
                due.refuses("3: cards " + cards + " of " + count, Due.ARGUMENT,
                        () -> withCards(number).variant(0, cards));
            }
        }
        due.is("3: cards 1", 0, () -> withCards(1).variant(0, 1));
    }

    /** "or has a card that there is not": any set of those there are, and none with another one. */
    private static void cardsThatThereAreNot() {
        for (int count = 1; count <= 8; count++) {
            int number = count;
            int all = (1 << count) - 1;
            due.is("3: all " + count, 0, () -> withCards(number).variant(0, all));
            due.is("3: the last of " + count, 0,
                    () -> withCards(number).variant(0, 1 << number - 1));
            for (int card = count; card < 31; card++) {
                int none = 1 << card;
                due.refuses("3: the card " + card + " of " + count, Due.ARGUMENT,
                        () -> withCards(number).variant(0, none));
                due.refuses("3: all and the card " + card + " of " + count, Due.ARGUMENT,
                        () -> withCards(number).variant(0, all | none));
            }
        }
        due.refuses("3: no cards at all", Due.ARGUMENT, () -> withCards(0).variant(0, 1));
    }

    /** "Variants are numbered from 0", "Returns its number." */
    private static void variantNumbers() {
        VariantMill x = withCards(1);
        for (int i = 0; i < 4; i++) {
            int number = i;
            due.refuses("3: not there yet " + i, Due.INDEX, () -> x.endless(number));
            due.is("3: the number " + i, number, () -> x.variant(0, 1));
            due.is("3: now it is there " + i, 0, () -> x.endless(number));
        }
    }

    /** "at most 4", "IllegalStateException if there are 4". */
    private static void fourVariants() {
        due.is("3: the fourth variant", 3, () -> withVariants(3).variant(MOST_HOLES, 1));
        due.refuses("3: a fifth variant", Due.STATE, () -> withVariants(4).variant(MOST_HOLES, 1));
        VariantMill x = withVariants(4);
        for (int i = 0; i < 3; i++) {
            due.refuses("3: a fifth variant, time " + i, Due.STATE, () -> x.variant(0, 1));
        }
        due.refuses("3: the variant 4 is not there", Due.INDEX, () -> x.endless(4));
        due.is("3: the variant 3 is there", 0, () -> x.endless(3));
    }

    /** "The first line of a method's throws clause that applies decides". */
    private static void rangeAheadOfFourVariants() {
        int[][] bad = {{-1, 1}, {MOST_HOLES + 1, 1}, {0, 0}, {0, -1}, {0, 2}, {0, 3}};
        for (int[] v : bad) {
            due.refuses("3: out of range, and there are 4", Due.ARGUMENT,
                    () -> withVariants(4).variant(v[0], v[1]));
        }
    }

    // ---- promise 4

    /** "IndexOutOfBoundsException if there is no such variant". */
    private static void setCardsOfNoVariant() {
        for (int count = 0; count <= 4; count++) {
            int number = count;
            for (int variant = 0; variant < count; variant++) {
                int v = variant;
                due.is("4: the variant " + v + " of " + count, 1,
                        () -> withVariants(number).setCards(v, 1));
            }
            int[] none = {-1, count, count + 1, 4, 5, Integer.MIN_VALUE, Integer.MAX_VALUE};
            for (int variant : none) {
                due.refuses("4: no variant " + variant + " of " + count, Due.INDEX,
                        () -> withVariants(number).setCards(variant, 1));
            }
        }
    }

    /** "IllegalArgumentException if cards is below 1". */
    private static void setCardsBelowOne() {
        int[] below = {0, -1, -2, Integer.MIN_VALUE, Integer.MIN_VALUE + 1};
        for (int cards : below) {
            due.refuses("4: cards " + cards, Due.ARGUMENT,
                    () -> withVariants(1).setCards(0, cards));
        }
        due.is("4: cards 1", 1, () -> withVariants(1).setCards(0, 1));
    }

    /** "or has a card that there is not": a card that came behind the variant is there. */
    private static void setCardsThatThereAreNot() {
        VariantMill x = withVariants(1);
        for (int count = 1; count <= 8; count++) {
            int all = (1 << count) - 1;
            due.is("4: all of " + count, count == 1 ? 1 : all >> 1, () -> x.setCards(0, all));
            for (int card = count; card < 31; card++) {
                int none = 1 << card;
                due.refuses("4: the card " + card + " of " + count, Due.ARGUMENT,
                        () -> x.setCards(0, none));
                due.refuses("4: all and the card " + card + " of " + count, Due.ARGUMENT,
                        () -> x.setCards(0, all | none));
            }
            if (count < 8) {
                x.card(0, 1, 0, 1);
            }
        }
    }

    /** "The first line of a method's throws clause that applies decides". */
    private static void setCardsVariantAheadOfCards() {
        int[] noVariants = {-1, 1, 4};
        int[] noCards = {0, -1, 2, Integer.MIN_VALUE};
        for (int variant : noVariants) {
            for (int cards : noCards) {
                due.refuses("4: no variant " + variant + ", no cards " + cards, Due.INDEX,
                        () -> withVariants(1).setCards(variant, cards));
            }
        }
    }

    /** "Returns the set before." A refused call is no set before. */
    private static void setCardsReturnsTheSetBefore() {
        VariantMill x = withCards(8);
        x.variant(0, 255);
        x.variant(0, 128);
        due.is("4: of all cards", 255, () -> x.setCards(0, 1));
        due.is("4: of the first card", 1, () -> x.setCards(0, 1));
        due.refuses("4: refused", Due.ARGUMENT, () -> x.setCards(0, 256));
        due.refuses("4: refused", Due.ARGUMENT, () -> x.setCards(0, 0));
        due.is("4: of the first card still", 1, () -> x.setCards(0, 128));
        due.is("4: of the last card", 128, () -> x.setCards(0, 255));
        due.is("4: of the other variant", 128, () -> x.setCards(1, 2));
    }

    /** "for games that begin from now on": one that has begun keeps its cards, to its end. */
    private static void setCardsForGamesFromNowOn() {
        VariantMill x = new VariantMill();
        x.card(VariantMill.LEAP, 1, 0, 1);
        x.card(VariantMill.LEAP, 0, 1, 1);
        x.variant(0, 1);
        x.begin(0, 0, 1, Due.set(2), Due.set(22));
        x.setCards(0, 2);
        x.begin(0, 0, 1, Due.set(2), Due.set(22));
        due.holds("4: the old game, the old card", true, () -> x.can(0, 2, 3));
        due.holds("4: the old game, the new card", false, () -> x.can(0, 2, 7));
        due.holds("4: the new game, the old card", false, () -> x.can(1, 2, 3));
        due.holds("4: the new game, the new card", true, () -> x.can(1, 2, 7));
        due.refuses("4: the old game does not move so", Due.STATE, () -> x.move(0, 2, 7));
        due.refuses("4: the new game does not move so", Due.STATE, () -> x.move(1, 2, 3));
        due.is("4: the old game moves so", VariantMill.OPEN, () -> x.move(0, 2, 3));
        due.is("4: and the other one", VariantMill.OPEN, () -> x.move(0, 22, 23));
        due.is("4: and so on", VariantMill.OPEN, () -> x.move(0, 3, 4));
        due.is("4: until there is no move by the old card", VariantMill.SECOND_WON,
                () -> x.move(0, 23, 24));
        due.refuses("4: a game without a move by the new card", Due.STATE,
                () -> x.begin(0, 0, 1, Due.set(22), Due.set(0)));
        x.setCards(0, 3);
        due.is("4: with both there is one", 2, () -> x.begin(0, 0, 1, Due.set(22), Due.set(0)));
    }

    /** Only the lines of its throws clause refuse it: not a ban, and not a full object. */
    private static void setCardsOfBannedVariant() {
        VariantMill x = withCards(8);
        x.variant(0, 255);
        for (int i = 0; i < 12; i++) {
            x.begin(0, 0, 1, 1, 2);
        }
        FourWays.threeVotes(x, 0);
        due.is("4: of a banned variant, with 8 cards and 12 games", 255, () -> x.setCards(0, 128));
        due.is("4: it was set", 128, () -> x.setCards(0, 1));
    }
}
