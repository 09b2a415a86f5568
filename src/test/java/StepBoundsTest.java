/** Terms, 'Cards': where a step ends, from every cell of the board and on every line of cells. */
public final class StepBoundsTest {
    private static final Due due = new Due();
    private static final int[] SHORTEST_AND_LONGEST = {1, 4};
    private static final int[] ALL_REACHES = {1, 2, 3, 4};

    public static void main(String[] args) {
        cellNumbers();
        leapsEndAtTheEdges();
        slidesEndAtTheEdges();
        hopsEndAtTheEdges();
        linesOfLeaps();
        linesOfSlides();
        linesOfHops();
        longStepsLookAtTheirOwnCells();
        takenPiecesAreGone();
        someCardIsEnough();
        due.end();
    }

    // ---- the edges of the board: "on the board", with no way round them

    /** "the cell of the column x and the row y, 0 to 4 each, has the number 5 * y + x". */
    private static void cellNumbers() {
        for (int from = 0; from < 25; from++) {
            for (int to = 0; to < 25; to++) {
                int dx = to % 5 - from % 5;
                int dy = to / 5 - from / 5;
                boolean isStep = from != to && Math.abs(dx) <= 2 && Math.abs(dy) <= 2;
                if (isStep) {
                    int start = from;
                    int end = to;
                    VariantMill x = new VariantMill();
                    x.card(VariantMill.LEAP, dx, dy, 1);
                    x.variant(0, 1);
                    due.is("cells: begins on " + from, 0,
                            () -> x.begin(0, 0, 1, 1 << start, 1 << end));
                    due.is("cells: from " + from + " to " + to, VariantMill.FIRST_WON,
                            () -> x.move(0, start, end));
                }
            }
        }
    }

    /** "LEAP: a piece goes to the cell that is one step from it (the reach does not matter)." */
    private static void leapsEndAtTheEdges() {
        endAtTheEdges(VariantMill.LEAP, SHORTEST_AND_LONGEST, 0);
    }

    /** "SLIDE: a piece goes to a cell that is one to reach steps from it". */
    private static void slidesEndAtTheEdges() {
        endAtTheEdges(VariantMill.SLIDE, ALL_REACHES, 0);
    }

    /** "HOP: like SLIDE, but just one .. has a piece": that one stands 1, 2 or 3 steps ahead, or none. */
    private static void hopsEndAtTheEdges() {
        for (int obstacle = 0; obstacle <= 3; obstacle++) {
            endAtTheEdges(VariantMill.HOP, ALL_REACHES, obstacle);
        }
    }

    /** All steps, from all cells, of the first one, and of the second one: "dy is -dy". */
    private static void endAtTheEdges(int kind, int[] reaches, int obstacle) {
        for (int dx = -2; dx <= 2; dx++) {
            for (int dy = -2; dy <= 2; dy++) {
                for (int reach : reaches) {
                    for (int from = 0; from < 25 && (dx != 0 || dy != 0); from++) {
                        firstEnds(kind, dx, dy, reach, from, obstacle);
                        secondEnds(kind, dx, dy, reach, from, obstacle);
                    }
                }
            }
        }
    }

    /** The cell some steps from another one, or -1 if it or one ahead of it is not on the board. */
    private static int stepsAway(int from, int dx, int dy, int steps) {
        int x = from % 5 + steps * dx;
        int y = from / 5 + steps * dy;
        return 0 <= x && x <= 4 && 0 <= y && y <= 4 ? 5 * y + x : -1;
    }

    private static int rayOf(int from, int dx, int dy) {
        int ray = 0;
        for (int steps = 1; steps <= 4; steps++) {
            int cell = stepsAway(from, dx, dy, steps);
            ray |= cell >= 0 ? 1 << cell : 0;
        }
        return ray;
    }

    /** Where a piece goes on a board with one obstacle some steps ahead, none for 0. */
    private static int dueEnds(int kind, int dx, int dy, int reach, int from, int obstacle) {
        int ends = 0;
        for (int steps = 1; steps <= reach; steps++) {
            int cell = stepsAway(from, dx, dy, steps);
            boolean isEnd = kind == VariantMill.LEAP && steps == 1 || kind == VariantMill.SLIDE
                    || kind == VariantMill.HOP && obstacle >= 1 && steps == obstacle + 1;
            ends |= cell >= 0 && isEnd ? 1 << cell : 0;
        }
        return ends;
    }

    /** The first one of two free cells side by side, none of them in a set. */
    private static int freePair(int taken) {
        for (int cell = 0; cell < 24; cell++) {
            if (cell % 5 < 4 && (taken >> cell & 3) == 0) {
                return cell;
            }
        }
        throw new AssertionError("no free pair");
    }

    private static int freeCell(int taken) {
        return Integer.numberOfTrailingZeros(~taken);
    }

    /** Ends by the card asked about and, so that there is a move, by a step to the right. */
    private static VariantMill twoCards(int kind, int dx, int dy, int reach) {
        VariantMill x = new VariantMill();
        x.card(kind, dx, dy, reach);
        x.card(VariantMill.LEAP, 1, 0, 1);
        x.variant(0, 3);
        return x;
    }

    private static int rightOf(int cell) {
        return cell % 5 < 4 ? 1 << cell + 1 : 0;
    }

    private static void firstEnds(int kind, int dx, int dy, int reach, int from, int obstacle) {
        int inTheWay = obstacle == 0 ? -1 : stepsAway(from, dx, dy, obstacle);
        if (obstacle > 0 && inTheWay < 0) {
            return;
        }
        int kept = rayOf(from, dx, dy) | 1 << from | rightOf(from);
        int helper = freePair(kept);
        int far = freeCell(kept | 3 << helper);
        int other = 1 << far | (inTheWay < 0 ? 0 : 1 << inTheWay);
        VariantMill x = twoCards(kind, dx, dy, reach);
        x.begin(0, 0, 1, 1 << from | 1 << helper, other);
        ends("first one", x, from, dueEnds(kind, dx, dy, reach, from, obstacle) | rightOf(from),
                kind, dx, dy, reach, obstacle);
    }

    private static void secondEnds(int kind, int dx, int dy, int reach, int from, int obstacle) {
        int inTheWay = obstacle == 0 ? -1 : stepsAway(from, dx, -dy, obstacle);
        if (obstacle > 0 && inTheWay < 0) {
            return;
        }
        int kept = rayOf(from, dx, -dy) | 1 << from | rightOf(from);
        int helper = freePair(kept);
        int own = 1 << helper | (inTheWay < 0 ? 0 : 1 << inTheWay);
        VariantMill x = twoCards(kind, dx, dy, reach);
        x.begin(0, 0, 1, own, 1 << from);
        x.move(0, helper, helper + 1);
        ends("second one", x, from, dueEnds(kind, dx, -dy, reach, from, obstacle) | rightOf(from),
                kind, dx, dy, reach, obstacle);
    }

    private static void ends(String who, VariantMill x, int from, int ends, int kind, int dx, int dy,
            int reach, int obstacle) {
        String what = who + " from " + from + " by " + kind + " " + dx + " " + dy + " " + reach
                + ", a piece " + obstacle + " steps ahead";
        due.is("6: " + what, ends, () -> endsByCan(x, from));
        due.is("7: " + what, ends, () -> endsByAll(x, from));
    }

    private static int endsByCan(VariantMill x, int from) {
        int ends = 0;
        for (int to = 0; to < 25; to++) {
            ends |= x.can(0, from, to) ? 1 << to : 0;
        }
        return ends;
    }

    private static int endsByAll(VariantMill x, int from) {
        int ends = 0;
        for (int to = 0; to < 25; to++) {
            ends |= x.canByAll(0, from, to) ? 1 << to : 0;
        }
        return ends;
    }

    // ---- what stands in the way: every line of four cells, each one free or a hole or with a piece

    /** "to the cell that is one step from it": whatever stands ahead of it or behind. */
    private static void linesOfLeaps() {
        allLines(VariantMill.LEAP);
    }

    /** "all cells that are fewer steps from it .. on the board, no holes, and without pieces". */
    private static void linesOfSlides() {
        allLines(VariantMill.SLIDE);
    }

    /** "just one .. has a piece, of whomever, and that is the one ahead of the cell .. it goes". */
    private static void linesOfHops() {
        allLines(VariantMill.HOP);
    }

    private static void allLines(int kind) {
        String signs = ".#FS";
        for (int number = 0; number < 256; number++) {
            StringBuilder line = new StringBuilder();
            for (int place = 0; place < 4; place++) {
                line.append(signs.charAt(number >> 2 * place & 3));
            }
            for (int reach = 1; reach <= 4; reach++) {
                lineOfFirst(kind, reach, line.toString());
                lineOfSecond(kind, reach, line.toString());
            }
        }
    }

    /** Where the piece ahead of the line goes; own is the sign of its owner's pieces. */
    private static int endsOnLine(int kind, int reach, String line, char own) {
        int ends = 0;
        for (int steps = 1; steps <= 4; steps++) {
            char end = line.charAt(steps - 1);
            int holes = 0;
            int pieces = 0;
            for (int passed = 0; passed < steps - 1; passed++) {
                holes += line.charAt(passed) == '#' ? 1 : 0;
                pieces += line.charAt(passed) == 'F' || line.charAt(passed) == 'S' ? 1 : 0;
            }
            boolean isFar = steps > (kind == VariantMill.LEAP ? 1 : reach);
            boolean isClear = holes == 0 && pieces == 0;
            boolean isOverOne = holes == 0 && pieces == 1 && line.charAt(steps - 2) != '.';
            boolean isWay = kind == VariantMill.HOP ? isOverOne : isClear;
            if (!isFar && isWay && end != '#' && end != own) {
                ends |= 1 << steps;
            }
        }
        return ends;
    }

    private static int cellsOf(String line, char sign) {
        int cells = 0;
        for (int place = 0; place < 4; place++) {
            cells |= line.charAt(place) == sign ? 1 << place + 1 : 0;
        }
        return cells;
    }

    /** From the line the second card leads up, off the board: only pieces elsewhere go by it. */
    private static VariantMill lineBoard(int kind, int reach, String line, int upCard) {
        VariantMill x = new VariantMill();
        x.card(kind, 1, 0, reach);
        x.card(VariantMill.LEAP, 0, upCard, 1);
        x.variant(cellsOf(line, '#'), 3);
        return x;
    }

    private static void lineOfFirst(int kind, int reach, String line) {
        VariantMill x = lineBoard(kind, reach, line, -1);
        x.begin(0, 0, 1, 1 | 1 << 20 | cellsOf(line, 'F'), 1 << 24 | cellsOf(line, 'S'));
        lineIs("first one", x, endsOnLine(kind, reach, line, 'F'), kind, reach, line);
    }

    /** The second card leads the first one from 15 to 20, and the second one up, from 24 alone. */
    private static void lineOfSecond(int kind, int reach, String line) {
        VariantMill x = lineBoard(kind, reach, line, 1);
        x.begin(0, 0, 1, 1 << 15 | cellsOf(line, 'F'), 1 | 1 << 24 | cellsOf(line, 'S'));
        x.move(0, 15, 20);
        lineIs("second one", x, endsOnLine(kind, reach, line, 'S'), kind, reach, line);
    }

    private static void lineIs(String who, VariantMill x, int ends, int kind, int reach,
            String line) {
        String what = who + " along " + line + " by " + kind + " of the reach " + reach;
        due.is("6: " + what, ends, () -> endsByCan(x, 0));
        due.is("7: " + what, ends, () -> endsByAll(x, 0));
    }

    // ---- other sentences of 'Cards'

    /** "step by step": the cells between those of a long step do not matter. */
    private static void longStepsLookAtTheirOwnCells() {
        int between = Due.set(1, 5, 6);
        int[] kinds = {VariantMill.LEAP, VariantMill.SLIDE};
        for (int kind : kinds) {
            VariantMill x = new VariantMill();
            x.card(kind, 2, 2, 1);
            x.variant(Due.set(7, 11), 1);
            x.begin(0, 0, 1, 1, between);
            due.is("6: over pieces and holes beside its way", Due.set(12), () -> endsByCan(x, 0));
        }
        VariantMill hop = new VariantMill();
        hop.card(VariantMill.HOP, 2, 2, 2);
        hop.variant(Due.set(7, 11, 13, 17, 18), 1);
        hop.begin(0, 0, 1, 1 | Due.set(1, 5), Due.set(12, 6));
        due.is("6: over the one piece on its way", Due.set(24), () -> endsByCan(hop, 0));
    }

    /** "a piece of the other one there is taken"; the one that a HOP passes is not. */
    private static void takenPiecesAreGone() {
        VariantMill x = new VariantMill();
        x.card(VariantMill.HOP, 1, 0, 4);
        x.card(VariantMill.LEAP, 0, 1, 1);
        x.variant(0, 3);
        x.begin(0, 0, 1, Due.set(0, 20), Due.set(1, 2, 24));
        due.refuses("8: not over two", Due.STATE, () -> x.move(0, 0, 3));
        due.is("8: over one, takes", VariantMill.OPEN, () -> x.move(0, 0, 2));
        due.is("10: the one who went", Due.set(2, 20), () -> x.pieces(0, false));
        due.is("10: the passed one stays, the taken one is gone", Due.set(1, 24),
                () -> x.pieces(0, true));
        due.is("8: the second one takes nothing", VariantMill.OPEN, () -> x.move(0, 24, 19));
        due.is("10: all of the first one's stay", Due.set(2, 20), () -> x.pieces(0, false));
    }

    /** "one piece goes as some card of the game says": the first one of eight, the last one. */
    private static void someCardIsEnough() {
        for (int said = 0; said < 8; said++) {
            VariantMill x = new VariantMill();
            for (int card = 0; card < 8; card++) {
                x.card(VariantMill.LEAP, card == said ? 1 : 0, card == said ? 0 : -1, 1);
            }
            x.variant(0, 255);
            x.variant(0, 1 << said);
            x.variant(0, 255 ^ 1 << said);
            int only = said;
            x.begin(0, 0, 1, Due.set(0), Due.set(24));
            due.is("6: by the card " + only + " of all", Due.set(1), () -> endsByCan(x, 0));
            due.is("7: by the card " + only + " of all", Due.set(1), () -> endsByAll(x, 0));
            due.is("5: by the card " + only + " alone", 1,
                    () -> x.begin(1, 0, 1, Due.set(0), Due.set(24)));
            due.refuses("5: not by the seven others", Due.STATE,
                    () -> x.begin(2, 0, 1, Due.set(0), Due.set(24)));
        }
    }
}
