/**
 * A workshop for variants of a board game: cards that say how pieces move, boards with holes,
 * games of two, a search some moves deep, bans, and points by variant.
 *
 * <p>A set of cells, cards or players is an int with the bit c for each member c.
 */
public final class VariantMill {
    public static final int LEAP = 0, SLIDE = 1, HOP = 2;
    public static final int OPEN = 0, FIRST_WON = 1, SECOND_WON = 2, DRAWN = 3;

    private static final int SIDE = 5;
    private static final int CELLS = 25;
    private static final int ALL_CELLS = 33554431;
    private static final int OFF_BOARD = -1;
    private static final int LONGEST_STEP = 2;
    private static final int LONGEST_REACH = 4;
    private static final int MOST_CARDS = 8;
    private static final int MOST_VARIANTS = 4;
    private static final int MOST_GAMES = 12;
    private static final int MOST_PIECES = 6;
    private static final int MOST_MOVES = 60;
    private static final int PLAYERS = 5;
    private static final int TIMES_OF_ENDLESS = 3;
    private static final int VOTES_THAT_BAN = 3;
    private static final int ENDLESS_THAT_BAN = 2;
    private static final int POINTS_OF_WON = 3;
    private static final int POINTS_OF_DRAWN = 1;
    private static final int DEEPEST = 2;
    private static final int LOST_VALUE = -100;
    private static final int WON_VALUE = 100;

    private final Card[] cardTable;
    private final Variant[] variants;
    private final Game[] games;
    private int cardCount;
    private int variantCount;
    private int gameCount;

    public VariantMill() {
        cardTable = new Card[MOST_CARDS];
        variants = new Variant[MOST_VARIANTS];
        games = new Game[MOST_GAMES];
    }

    // ---- cards and variants

    public int card(int kind, int dx, int dy, int reach)
            throws IllegalArgumentException, IllegalStateException {
        if (kind < LEAP || kind > HOP || !isStep(dx, dy) || reach < 1 || reach > LONGEST_REACH) {
            throw new IllegalArgumentException("no such card can be");
        }
        if (cardCount >= cardTable.length) {
            throw new IllegalStateException("there are 8 cards");
        }
        int number = cardCount;
        cardTable[number] = new Card(kind, dx, dy, reach);
        cardCount = number + 1;
        return number;
    }

    public int variant(int holes, int cards)
            throws IllegalArgumentException, IllegalStateException {
        if (holes < 0 || holes > ALL_CELLS || !isSetOfCards(cards)) {
            throw new IllegalArgumentException("no such holes or cards");
        }
        if (variantCount >= variants.length) {
            throw new IllegalStateException("there are 4 variants");
        }
        int number = variantCount;
        variants[number] = new Variant(new Rules(cardTable, cards, holes));
        variantCount = number + 1;
        return number;
    }

    public int setCards(int variant, int cards)
            throws IndexOutOfBoundsException, IllegalArgumentException {
        Variant changed = variantAt(variant);
        if (!isSetOfCards(cards)) {
            throw new IllegalArgumentException("no such cards");
        }
        Rules before = changed.rules;
        // Games that stand keep the rules that they began with, so these are replaced, not changed.
        changed.rules = new Rules(cardTable, cards, before.holes);
        return before.cards;
    }

    // ---- games

    public int begin(int variant, int first, int second, int own, int other)
            throws IndexOutOfBoundsException, IllegalArgumentException, IllegalStateException {
        Variant chosen = variantAt(variant);
        checkPlayer(first);
        checkPlayer(second);
        Rules rules = chosen.rules;
        if (first == second || !rules.canHold(own) || !rules.canHold(other) || (own & other) != 0) {
            throw new IllegalArgumentException("no such game can be");
        }
        if (chosen.isOut() || gameCount >= games.length || !rules.hasMove(own, other, false)) {
            throw new IllegalStateException("banned, 12 games, or no move");
        }
        int number = gameCount;
        games[number] = new Game(chosen, first, second, own, other);
        gameCount = number + 1;
        return number;
    }

    public boolean can(int game, int from, int to) throws IndexOutOfBoundsException {
        Game asked = gameAt(game);
        checkCell(from);
        checkCell(to);
        return asked.allows(from, to);
    }

    public boolean canByAll(int game, int from, int to) throws IndexOutOfBoundsException {
        Game asked = gameAt(game);
        checkCell(from);
        checkCell(to);
        return asked.state == OPEN && isAmongAllMoves(asked, from, to);
    }

    public int move(int game, int from, int to)
            throws IndexOutOfBoundsException, IllegalStateException {
        Game played = gameAt(game);
        checkCell(from);
        checkCell(to);
        if (played.variant.isOut() || !played.allows(from, to)) {
            throw new IllegalStateException("not open, void, or no card says so");
        }
        played.go(from, to);
        played.settle();
        return played.state;
    }

    public int state(int game) throws IndexOutOfBoundsException {
        return gameAt(game).state;
    }

    public int pieces(int game, boolean isSecond) throws IndexOutOfBoundsException {
        Game asked = gameAt(game);
        return isSecond ? asked.ofSecond : asked.ofFirst;
    }

    public int made(int game) throws IndexOutOfBoundsException {
        return gameAt(game).made;
    }

    // ---- search

    public int value(int game, int depth)
            throws IndexOutOfBoundsException, IllegalArgumentException {
        Game asked = gameAt(game);
        checkDepth(depth);
        return searchWithCuts(asked.rules, asked.ofMover(), asked.ofWaiting(),
                asked.isSecondToMove(), depth, LOST_VALUE, WON_VALUE);
    }

    public int valueByAll(int game, int depth)
            throws IndexOutOfBoundsException, IllegalArgumentException {
        Game asked = gameAt(game);
        checkDepth(depth);
        return searchAll(asked.rules, asked.ofMover(), asked.ofWaiting(),
                asked.isSecondToMove(), depth);
    }

    // ---- bans and points

    public int vote(int player, int variant) throws IndexOutOfBoundsException {
        checkPlayer(player);
        Variant voted = variantAt(variant);
        voted.voters ^= 1 << player;
        return Integer.bitCount(voted.voters);
    }

    public boolean isBanned(int variant) throws IndexOutOfBoundsException {
        return variantAt(variant).isOut();
    }

    public int endless(int variant) throws IndexOutOfBoundsException {
        return variantAt(variant).endlessGames;
    }

    public int points(int player, int variant) throws IndexOutOfBoundsException {
        checkPlayer(player);
        Variant asked = variantAt(variant);
        if (asked.isOut()) {
            return 0;
        }
        int sum = 0;
        for (int number = 0; number < games.length; number++) {
            Game counted = games[number];
            if (counted != null && counted.variant == asked) {
                sum += counted.pointsFor(player);
            }
        }
        return sum;
    }

    // ---- what the calls' arguments name

    private Variant variantAt(int number) {
        if (number < 0 || number >= variants.length) {
            throw new IndexOutOfBoundsException("no such variant");
        }
        Variant found = variants[number];
        if (found == null) {
            throw new IndexOutOfBoundsException("no such variant");
        }
        return found;
    }

    private Game gameAt(int number) {
        if (number < 0 || number >= games.length) {
            throw new IndexOutOfBoundsException("no such game");
        }
        Game found = games[number];
        if (found == null) {
            throw new IndexOutOfBoundsException("no such game");
        }
        return found;
    }

    private static void checkPlayer(int player) {
        if (player < 0 || player >= PLAYERS) {
            throw new IndexOutOfBoundsException("no such player");
        }
    }

    private static void checkCell(int cell) {
        if (cell < 0 || cell >= CELLS) {
            throw new IndexOutOfBoundsException("no such cell");
        }
    }

    private static void checkDepth(int depth) {
        if (depth < 0 || depth > DEEPEST) {
            throw new IllegalArgumentException("the depth is 0 to 2");
        }
    }

    private static boolean isStep(int dx, int dy) {
        boolean isShort = dx >= -LONGEST_STEP && dx <= LONGEST_STEP
                && dy >= -LONGEST_STEP && dy <= LONGEST_STEP;
        return isShort && (dx != 0 || dy != 0);
    }

    private boolean isSetOfCards(int cards) {
        return cards >= 1 && cards < 1 << cardCount;
    }

    // ---- cells, moves and the search

    private static boolean isIn(int set, int member) {
        return (set >> member & 1) != 0;
    }

    private static int cellAhead(int cell, int dx, int dy) {
        int x = cell % SIDE + dx;
        int y = cell / SIDE + dy;
        boolean isOnBoard = x >= 0 && x < SIDE && y >= 0 && y < SIDE;
        return isOnBoard ? SIDE * y + x : OFF_BOARD;
    }

    private static boolean isAmongAllMoves(Game game, int from, int to) {
        boolean isFound = false;
        for (int start = 0; start < CELLS; start++) {
            int ends = game.rules.endsFrom(start, game.ofMover(), game.ofWaiting(),
                    game.isSecondToMove());
            for (int end = 0; end < CELLS; end++) {
                if (isIn(ends, end) && start == from && end == to) {
                    isFound = true;
                }
            }
        }
        return isFound;
    }

    /** The value for the one to move, exact if it lies between low and high, else a bound of it. */
    private static int searchWithCuts(Rules rules, int own, int other, boolean isSecond,
            int depth, int low, int high) {
        if (!rules.hasMove(own, other, isSecond)) {
            return LOST_VALUE;
        }
        if (depth <= 0) {
            return Integer.bitCount(own) - Integer.bitCount(other);
        }
        int best = LOST_VALUE;
        for (int from = 0; from < CELLS; from++) {
            int ends = rules.endsFrom(from, own, other, isSecond);
            for (int to = 0; to < CELLS; to++) {
                if (isIn(ends, to)) {
                    int behind = -searchWithCuts(rules, other & ~(1 << to), moved(own, from, to),
                            !isSecond, depth - 1, -high, -Math.max(low, best));
                    best = Math.max(best, behind);
                    if (best >= high) {
                        return best;
                    }
                }
            }
        }
        return best;
    }

    private static int searchAll(Rules rules, int own, int other, boolean isSecond, int depth) {
        if (!rules.hasMove(own, other, isSecond)) {
            return LOST_VALUE;
        }
        if (depth <= 0) {
            return Integer.bitCount(own) - Integer.bitCount(other);
        }
        int best = LOST_VALUE;
        for (int from = 0; from < CELLS; from++) {
            int ends = rules.endsFrom(from, own, other, isSecond);
            for (int to = 0; to < CELLS; to++) {
                if (isIn(ends, to)) {
                    best = Math.max(best, -searchAll(rules, other & ~(1 << to),
                            moved(own, from, to), !isSecond, depth - 1));
                }
            }
        }
        return best;
    }

    private static int moved(int pieces, int from, int to) {
        return pieces & ~(1 << from) | 1 << to;
    }

    /** One way for pieces to move. */
    private static final class Card {
        final int kind;
        final int dx;
        final int dy;
        final int reach;

        Card(int kind, int dx, int dy, int reach) {
            this.kind = kind;
            this.dx = dx;
            this.dy = dy;
            this.reach = kind == LEAP ? 1 : reach;
        }

        int rows(boolean isSecond) {
            return isSecond ? -dy : dy;
        }

        /** The cells to which it leads from a cell, whosever pieces are there. */
        int endsFrom(int start, int holes, int pieces, boolean isSecond) {
            int ends = 0;
            int cell = start;
            boolean canEnd = kind != HOP;
            for (int steps = 1; steps <= reach; steps++) {
                cell = cellAhead(cell, dx, rows(isSecond));
                if (cell == OFF_BOARD || isIn(holes, cell)) {
                    return ends;
                }
                if (canEnd) {
                    ends |= 1 << cell;
                }
                boolean isPiece = isIn(pieces, cell);
                if (kind == HOP ? canEnd : isPiece) {
                    return ends;
                }
                canEnd = kind != HOP || isPiece;
            }
            return ends;
        }

        /** Whether it leads from one cell to the other, whosever piece is there. */
        boolean leads(int from, int to, int holes, int pieces, boolean isSecond) {
            int passed = 0;
            int before = OFF_BOARD;
            int cell = from;
            for (int steps = 1; steps <= reach; steps++) {
                cell = cellAhead(cell, dx, rows(isSecond));
                if (cell == OFF_BOARD || isIn(holes, cell)) {
                    return false;
                }
                if (cell == to) {
                    return isRightPath(passed, before, pieces);
                }
                passed |= 1 << cell;
                before = cell;
            }
            return false;
        }

        /** The cells passed may hold no piece but a HOP's one, which is the last cell passed. */
        boolean isRightPath(int passed, int last, int pieces) {
            int met = passed & pieces;
            if (kind != HOP) {
                return met == 0;
            }
            return last != OFF_BOARD && met == 1 << last;
        }
    }

    /** What the games that begin at one time have in common: holes, and a set of the cards. */
    private static final class Rules {
        final Card[] table;
        final int cards;
        final int holes;

        Rules(Card[] table, int cards, int holes) {
            this.table = table;
            this.cards = cards;
            this.holes = holes;
        }

        boolean canHold(int pieces) {
            return pieces >= 1 && pieces <= ALL_CELLS && Integer.bitCount(pieces) <= MOST_PIECES
                    && (pieces & holes) == 0;
        }

        /** The cells to which a piece of one's own goes from a cell; none if there is no such piece. */
        int endsFrom(int start, int own, int other, boolean isSecond) {
            int ends = 0;
            if (isIn(own, start)) {
                for (int number = 0; number < table.length; number++) {
                    Card card = table[number];
                    if (card != null && isIn(cards, number)) {
                        ends |= card.endsFrom(start, holes, own | other, isSecond);
                    }
                }
            }
            return ends & ~own;
        }

        boolean hasMove(int own, int other, boolean isSecond) {
            for (int start = 0; start < CELLS; start++) {
                if (endsFrom(start, own, other, isSecond) != 0) {
                    return true;
                }
            }
            return false;
        }

        boolean someCardLeads(int from, int to, int pieces, boolean isSecond) {
            for (int number = 0; number < table.length; number++) {
                Card card = table[number];
                if (card != null && isIn(cards, number)
                        && card.leads(from, to, holes, pieces, isSecond)) {
                    return true;
                }
            }
            return false;
        }
    }

    /** A variant, with the rules of games that begin from now on. */
    private static final class Variant {
        Rules rules;
        int voters;
        int endlessGames;

        Variant(Rules rules) {
            this.rules = rules;
        }

        boolean isOut() {
            return Integer.bitCount(voters) >= VOTES_THAT_BAN || endlessGames >= ENDLESS_THAT_BAN;
        }
    }

    /** A game of two, with the rules that its variant had when it began. */
    private static final class Game {
        final Variant variant;
        final Rules rules;
        final int first;
        final int second;
        /** What was there behind each number of moves made, pieces and the one to move. */
        final long[] seen;
        int ofFirst;
        int ofSecond;
        int made;
        int state;

        Game(Variant variant, int first, int second, int ofFirst, int ofSecond) {
            this.variant = variant;
            this.rules = variant.rules;
            this.first = first;
            this.second = second;
            this.ofFirst = ofFirst;
            this.ofSecond = ofSecond;
            this.state = OPEN;
            this.seen = new long[MOST_MOVES + 1];
            this.seen[0] = placing(ofFirst, ofSecond, false);
        }

        static long placing(int ofFirst, int ofSecond, boolean isSecond) {
            long bothSides = (long) ofSecond << CELLS | ofFirst;
            return bothSides << 1 | (isSecond ? 1 : 0);
        }

        boolean isSecondToMove() {
            return made % 2 == 1;
        }

        int ofMover() {
            return isSecondToMove() ? ofSecond : ofFirst;
        }

        int ofWaiting() {
            return isSecondToMove() ? ofFirst : ofSecond;
        }

        /** Whether it is open and the one to move can go so; bans do not matter here. */
        boolean allows(int from, int to) {
            return state == OPEN && isIn(ofMover(), from) && !isIn(ofMover(), to)
                    && rules.someCardLeads(from, to, ofFirst | ofSecond, isSecondToMove());
        }

        void go(int from, int to) {
            int mover = moved(ofMover(), from, to);
            int waiting = ofWaiting() & ~(1 << to);
            ofFirst = isSecondToMove() ? waiting : mover;
            ofSecond = isSecondToMove() ? mover : waiting;
            made++;
            if (made < seen.length) {
                seen[made] = placing(ofFirst, ofSecond, isSecondToMove());
            }
        }

        /** Finds the state behind a move: the one to move is now the other one. */
        void settle() {
            if (!rules.hasMove(ofMover(), ofWaiting(), isSecondToMove())) {
                state = isSecondToMove() ? FIRST_WON : SECOND_WON;
            } else if (timesSeen() >= TIMES_OF_ENDLESS) {
                state = DRAWN;
                variant.endlessGames++;
            } else if (made >= MOST_MOVES) {
                state = DRAWN;
            }
        }

        int timesSeen() {
            long now = placing(ofFirst, ofSecond, isSecondToMove());
            int times = 0;
            for (int moves = 0; moves <= made && moves < seen.length; moves++) {
                if (seen[moves] == now) {
                    times++;
                }
            }
            return times;
        }

        int pointsFor(int player) {
            if (state == DRAWN) {
                return player == first || player == second ? POINTS_OF_DRAWN : 0;
            }
            boolean hasWon = state == FIRST_WON && player == first
                    || state == SECOND_WON && player == second;
            return hasWon ? POINTS_OF_WON : 0;
        }
    }
}
