import java.util.ArrayList;
import java.util.List;

/** "a call that throws changes nothing": behind each refused call an object goes on as one without it. */
public final class RefusedCallsTest {
    private static final Due due = new Due();
    private static final int MIN = Integer.MIN_VALUE;
    private static final int MAX = Integer.MAX_VALUE;
    /** A hole beside the ways of FourWays. */
    private static final int HOLES = Due.set(13);
    private static final int OWN = Due.set(0);
    private static final int OTHER = Due.set(24);

    /** A way to make an object, the same one each time. */
    private interface Maker {
        VariantMill make();
    }

    /** A call of an object. */
    private interface Refused {
        long of(VariantMill x);
    }

    private record Case(String name, Class<? extends RuntimeException> why, Refused call) {
    }

    private final String name;
    private final Maker maker;
    private final List<Case> cases = new ArrayList<>();

    private RefusedCallsTest(String name, Maker maker) {
        this.name = name;
        this.maker = maker;
    }

    public static void main(String[] args) {
        empty();
        cardsAlone();
        oneGameUnderWay();
        fullIsAsMeant();
        full();
        due.end();
    }

    private void index(String what, Refused call) {
        cases.add(new Case(what, Due.INDEX, call));
    }

    private void argument(String what, Refused call) {
        cases.add(new Case(what, Due.ARGUMENT, call));
    }

    private void state(String what, Refused call) {
        cases.add(new Case(what, Due.STATE, call));
    }

    /** Each call by itself on an object of its own, then many of them on one. */
    private void check() {
        String untouched = Whole.tell(maker.make());
        for (Case one : cases) {
            VariantMill x = maker.make();
            due.refuses(name + one.name(), one.why(), () -> one.call().of(x));
            same(one.name(), untouched, Whole.tell(x));
        }
        // An object is used for at most 512 calls, so these are no more than fifty at a time.
        for (int from = 0; from < cases.size(); from += 50) {
            VariantMill x = maker.make();
            for (int i = from; i < from + 50 && i < cases.size(); i++) {
                Case one = cases.get(i);
                due.refuses(name + "behind others, " + one.name(), one.why(),
                        () -> one.call().of(x));
            }
            same("fifty cases from " + from, untouched, Whole.tell(x));
        }
    }

    private void same(String what, String untouched, String told) {
        String[] wanted = untouched.split("\n");
        String[] got = told.split("\n");
        String first = "";
        for (int i = 0; i < wanted.length && first.isEmpty(); i++) {
            first = wanted[i].equals(got[i]) ? "" : got[i] + ", due is " + wanted[i];
        }
        String difference = first;
        due.holds(name + what + ", has changed " + difference, true, difference::isEmpty);
    }

    private void cardCalls() {
        int[][] bad = {{-1, 1, 1, 1}, {3, 1, 1, 1}, {0, -3, 1, 1}, {1, 3, 1, 1}, {2, 1, -3, 1},
            {0, 1, 3, 1}, {1, 1, 1, 0}, {2, 1, 1, 5}, {0, 0, 0, 1}, {MIN, 1, 1, 1},
            {0, MAX, 1, 1}, {0, 1, MIN, 1}, {0, 1, 1, MAX}};
        for (int[] c : bad) {
            argument("card " + c[0] + " " + c[1] + " " + c[2] + " " + c[3],
                    x -> x.card(c[0], c[1], c[2], c[3]));
        }
    }

    private void variantCalls(int firstCardThatIsNot) {
        int[][] bad = {{-1, 1}, {1 << 25, 1}, {MIN, 1}, {MAX, 1}, {0, 0}, {0, -1}, {0, MIN},
            {0, MAX}, {0, 1 << firstCardThatIsNot}, {0, 1 << firstCardThatIsNot | 1}};
        for (int[] v : bad) {
            argument("variant " + v[0] + " " + v[1], x -> x.variant(v[0], v[1]));
        }
    }

    private void setCardsCalls(int variants, int firstCardThatIsNot) {
        int[] none = {-1, variants, 4, MIN, MAX};
        for (int v : none) {
            index("setCards " + v + " 1", x -> x.setCards(v, 1));
            index("setCards " + v + " 0", x -> x.setCards(v, 0));
        }
        int[] bad = {0, -1, MIN, MAX, 1 << firstCardThatIsNot, 1 << firstCardThatIsNot | 1};
        for (int cards : bad) {
            if (variants > 0) {
                argument("setCards 0 " + cards, x -> x.setCards(0, cards));
            }
        }
    }

    private void beginIndexes(int variants) {
        int[] noVariants = {-1, variants, 4, MIN, MAX};
        for (int v : noVariants) {
            index("begin of the variant " + v, x -> x.begin(v, 0, 1, OWN, OTHER));
        }
        int[] noPlayers = {-1, 5, MIN, MAX};
        for (int one : noPlayers) {
            index("begin of the first one " + one, x -> x.begin(0, one, 1, OWN, OTHER));
            index("begin of the second one " + one, x -> x.begin(0, 0, one, OWN, OTHER));
            index("begin of both " + one, x -> x.begin(0, one, one, 0, 0));
        }
    }

    private void beginArguments() {
        int seven = (1 << 7) - 1;
        int[][] bad = {{1, 1, OWN, OTHER}, {0, 1, 0, OTHER}, {0, 1, OWN, 0}, {0, 1, seven, OTHER},
            {0, 1, OTHER, seven}, {0, 1, HOLES, OTHER}, {0, 1, OWN, HOLES}, {0, 1, OWN, OWN},
            {0, 1, OWN | OTHER, OTHER}, {0, 1, 1 << 25, OTHER}, {0, 1, OWN, 1 << 25},
            {0, 1, MIN, OTHER}, {0, 1, OWN, -1}};
        for (int[] b : bad) {
            argument("begin " + b[0] + " " + b[1] + " " + b[2] + " " + b[3],
                    x -> x.begin(0, b[0], b[1], b[2], b[3]));
        }
    }

    private void gameIndexes(int games) {
        int[] none = {-1, games, 12, MIN, MAX};
        for (int g : none) {
            index("can of the game " + g, x -> x.can(g, 0, 1) ? 1 : 0);
            index("canByAll of the game " + g, x -> x.canByAll(g, 0, 1) ? 1 : 0);
            index("move of the game " + g, x -> x.move(g, 0, 1));
            index("state of the game " + g, x -> x.state(g));
            index("pieces of the game " + g, x -> x.pieces(g, true));
            index("made of the game " + g, x -> x.made(g));
            index("value of the game " + g, x -> x.value(g, 2));
            index("valueByAll of the game " + g, x -> x.valueByAll(g, 3));
        }
    }

    private void cellsAndDepths() {
        int[] cells = {-1, 25, MIN, MAX};
        for (int cell : cells) {
            index("can from " + cell, x -> x.can(0, cell, 1) ? 1 : 0);
            index("can to " + cell, x -> x.can(0, 0, cell) ? 1 : 0);
            index("canByAll from " + cell, x -> x.canByAll(0, cell, 1) ? 1 : 0);
            index("canByAll to " + cell, x -> x.canByAll(0, 0, cell) ? 1 : 0);
            index("move from " + cell, x -> x.move(0, cell, 1));
            index("move to " + cell, x -> x.move(0, 0, cell));
        }
        int[] depths = {-1, 3, MIN, MAX};
        for (int depth : depths) {
            argument("value at " + depth, x -> x.value(0, depth));
            argument("valueByAll at " + depth, x -> x.valueByAll(0, depth));
        }
    }

    private void banCalls(int variants) {
        int[] noVariants = {-1, variants, 4, MIN, MAX};
        for (int v : noVariants) {
            index("vote for " + v, x -> x.vote(2, v));
            index("isBanned of " + v, x -> x.isBanned(v) ? 1 : 0);
            index("endless of " + v, x -> x.endless(v));
            index("points of " + v, x -> x.points(0, v));
        }
        int[] noPlayers = {-1, 5, MIN, MAX};
        for (int one : noPlayers) {
            index("vote of " + one, x -> x.vote(one, 0));
            index("points of the player " + one, x -> x.points(one, 0));
        }
    }

    /** No cards, variants and games: all but a card is refused. */
    private static void empty() {
        RefusedCallsTest test = new RefusedCallsTest("empty: ", VariantMill::new);
        test.cardCalls();
        test.variantCalls(0);
        test.setCardsCalls(0, 0);
        test.beginIndexes(0);
        test.gameIndexes(0);
        test.banCalls(0);
        test.check();
    }

    /** Cards, but neither variants nor games. */
    private static void cardsAlone() {
        RefusedCallsTest test = new RefusedCallsTest("cards alone: ", FourWays::variants);
        test.cardCalls();
        test.variantCalls(4);
        test.setCardsCalls(0, 4);
        test.beginIndexes(0);
        test.gameIndexes(0);
        test.banCalls(0);
        test.check();
    }

    /** One vote less than a ban, and a game four moves ahead of its third time. */
    private static VariantMill makeOneGame() {
        VariantMill x = FourWays.variants(HOLES);
        x.begin(0, 0, 1, OWN, OTHER);
        FourWays.toAndFro(x, 0, 0, 4);
        x.vote(0, 0);
        x.vote(1, 0);
        return x;
    }

    private static void oneGameUnderWay() {
        RefusedCallsTest test = new RefusedCallsTest("one game: ", RefusedCallsTest::makeOneGame);
        test.cardCalls();
        test.variantCalls(4);
        test.setCardsCalls(1, 4);
        test.beginIndexes(1);
        test.beginArguments();
        test.gameIndexes(1);
        test.cellsAndDepths();
        test.banCalls(1);
        int[][] noMoves = {{0, 0}, {0, 2}, {0, 6}, {0, 24}, {24, 23}, {1, 2}, {13, 12}, {5, 4}};
        for (int[] m : noMoves) {
            test.state("move from " + m[0] + " to " + m[1], x -> x.move(0, m[0], m[1]));
        }
        test.check();
    }

    /**
     * Eight cards, four variants, twelve games: the variant 0 with open games, 1 banned by votes, 2
     * for ever, 3 with games that are over.
     */
    private static VariantMill makeFull() {
        VariantMill x = FourWays.variants(HOLES, HOLES, HOLES, HOLES);
        x.card(VariantMill.SLIDE, 1, 1, 4);
        x.card(VariantMill.HOP, 1, 0, 4);
        x.card(VariantMill.SLIDE, -2, 1, 2);
        x.card(VariantMill.LEAP, 2, 2, 1);
        int[] moves = {0, 4, 7};
        for (int count : moves) {
            FourWays.toAndFro(x, x.begin(0, 0, 1, OWN, OTHER), 0, count);
        }
        x.begin(1, 0, 1, OWN, OTHER);
        x.move(x.begin(1, 2, 3, OWN, Due.set(1)), 0, 1);
        x.begin(2, 0, 1, OWN, OTHER);
        FourWays.toAndFro(x, x.begin(2, 0, 1, OWN, OTHER), 0, 8);
        FourWays.toAndFro(x, x.begin(2, 0, 1, OWN, OTHER), 0, 8);
        x.move(x.begin(3, 0, 1, Due.set(0, 6), Due.set(1)), 0, 1);
        int second = x.begin(3, 0, 1, OWN, Due.set(2, 18));
        x.move(second, 0, 1);
        x.move(second, 2, 1);
        FourWays.toAndFro(x, x.begin(3, 0, 1, OWN, OTHER), 0, 8);
        FourWays.walk(x, x.begin(3, 0, 1, OWN, OTHER), 60);
        FourWays.threeVotes(x, 1);
        x.vote(0, 0);
        x.vote(1, 0);
        return x;
    }

    /** What the cases of the full object lean on. */
    private static void fullIsAsMeant() {
        VariantMill x = makeFull();
        int[] states = {0, 0, 0, 0, 1, 0, 3, 3, 1, 2, 3, 3};
        for (int game = 0; game < states.length; game++) {
            int g = game;
            due.is("full: the state of the game " + g, states[g], () -> x.state(g));
        }
        due.is("full: endless behind eight moves", 8, () -> x.made(10));
        due.is("full: 60 moves", 60, () -> x.made(11));
        for (int variant = 0; variant < 4; variant++) {
            int v = variant;
            due.holds("full: a ban of " + v, v == 1 || v == 2, () -> x.isBanned(v));
            due.is("full: endless games of " + v, v < 2 ? 0 : 4 - v, () -> x.endless(v));
        }
    }

    private static void full() {
        RefusedCallsTest test = new RefusedCallsTest("full: ", RefusedCallsTest::makeFull);
        test.cardCalls();
        test.variantCalls(8);
        test.setCardsCalls(4, 8);
        test.beginIndexes(4);
        test.beginArguments();
        test.gameIndexes(12);
        test.cellsAndDepths();
        test.banCalls(4);
        test.state("a ninth card", x -> x.card(VariantMill.LEAP, 1, 0, 1));
        test.state("a fifth variant", x -> x.variant(0, 255));
        test.state("a thirteenth game", x -> x.begin(0, 0, 1, OWN, OTHER));
        test.state("a game of the variant banned by votes", x -> x.begin(1, 0, 1, OWN, OTHER));
        test.state("a game of the variant banned for ever", x -> x.begin(2, 0, 1, OWN, OTHER));
        test.state("a move of a void game", x -> x.move(3, 0, 1));
        test.state("a move of a game void for ever", x -> x.move(5, 0, 1));
        test.state("a move behind FIRST_WON", x -> x.move(8, 6, 7));
        test.state("a move behind SECOND_WON", x -> x.move(9, 18, 17));
        test.state("a move behind an endless game", x -> x.move(10, 0, 1));
        test.state("a move behind 60 moves", x -> x.move(11, 0, 1));
        test.check();
    }
}
