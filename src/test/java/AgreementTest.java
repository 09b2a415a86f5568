import java.util.List;
import java.util.Map;
import java.util.Random;
import java.util.TreeMap;

/** All promises: long runs of calls, right ones and wrong ones, answered as the model answers them. */
public final class AgreementTest {
    private static final int RUNS = 600;
    private static final int CALLS = 512;
    private static final Due due = new Due();
    private static final Map<String, Integer> met = new TreeMap<>();

    private final Random random;
    private final VariantMill mill = new VariantMill();
    private final Model model = new Model();
    private final String name;
    private final boolean isQuiet;
    private int calls;

    private AgreementTest(int seed) {
        random = new Random(seed);
        name = "run " + seed;
        // Quiet runs seek long games; the others take what they meet.
        isQuiet = seed % 3 == 0;
    }

    public static void main(String[] args) {
        for (int seed = 0; seed < RUNS; seed++) {
            new AgreementTest(seed).run();
        }
        String[] needed = {"state 1", "state 2", "state 3", "endless", "sixty", "banned by votes",
            "banned for ever", "void move", "12 games", "8 cards", "4 variants", "value 100",
            "value -100", "points"};
        for (String one : needed) {
            due.holds("the runs met " + one + ", " + met, true, () -> met.containsKey(one));
        }
        due.end();
    }

    private void run() {
        int cards = 1 + random.nextInt(8);
        for (int i = 0; i < cards; i++) {
            addCard();
        }
        for (int i = 0; i < 1 + random.nextInt(4); i++) {
            addVariant();
        }
        while (calls < CALLS) {
            int what = random.nextInt(100);
            if (what < 4) {
                addOrChange();
            } else if (what < 12 || model.gameCount() == 0) {
                beginOne();
            } else if (what < 70) {
                play();
            } else if (what < 80) {
                askMoves();
            } else if (what < 88) {
                askGame();
            } else if (what < 91) {
                votes();
            } else {
                askVariant();
            }
        }
    }

    private void same(String what, Due.Call ofModel, Due.Call ofMill) {
        if (calls >= CALLS) {
            return;
        }
        calls++;
        String expected = Due.outcome(ofModel);
        String got = Due.outcome(ofMill);
        due.is(name + ", call " + calls + ", " + what + " answers " + got + ", due " + expected, 1,
                () -> expected.equals(got) ? 1 : 0);
    }

    private static void meet(String what, boolean isMet) {
        if (isMet) {
            met.merge(what, 1, Integer::sum);
        }
    }

    private boolean rarely() {
        return random.nextInt(20) == 0;
    }

    /** Mostly a number below count, sometimes one that is not. */
    private int number(int count) {
        if (rarely() || count <= 0) {
            int[] wild = {-1, count, count + 1, Integer.MIN_VALUE, Integer.MAX_VALUE};
            return wild[random.nextInt(wild.length)];
        }
        return random.nextInt(count);
    }

    private int step() {
        return rarely() ? 3 - 6 * random.nextInt(2) : random.nextInt(5) - 2;
    }

    private void addCard() {
        int kind = number(3);
        int dx = step();
        int dy = step();
        int reach = number(4) + 1;
        meet("8 cards", model.cardCount() == 8);
        same("card " + kind + " " + dx + " " + dy + " " + reach,
                () -> model.card(kind, dx, dy, reach), () -> mill.card(kind, dx, dy, reach));
    }

    private int someCards() {
        int all = (1 << model.cardCount()) - 1;
        return rarely() ? random.nextInt(512) - 2 : all & random.nextInt(256) | all & random.nextInt(256);
    }

    private int someCells(int most) {
        int set = 0;
        for (int i = 0; i < most; i++) {
            set |= 1 << random.nextInt(25);
        }
        return set;
    }

    private void addVariant() {
        int holes = rarely() ? random.nextInt() : someCells(random.nextInt(5));
        int cards = someCards();
        meet("4 variants", model.variantCount() == 4);
        same("variant " + holes + " " + cards,
                () -> model.variant(holes, cards), () -> mill.variant(holes, cards));
    }

    private void addOrChange() {
        int what = random.nextInt(3);
        if (what == 0) {
            addCard();
        } else if (what == 1) {
            addVariant();
        } else {
            int variant = number(model.variantCount());
            int cards = someCards();
            same("setCards " + variant + " " + cards,
                    () -> model.setCards(variant, cards), () -> mill.setCards(variant, cards));
        }
    }

    private void beginOne() {
        int variant = number(model.variantCount());
        int first = number(5);
        int second = number(5);
        int most = isQuiet ? 2 : 6;
        int own = rarely() ? random.nextInt() : someCells(1 + random.nextInt(most));
        int cells = rarely() ? random.nextInt() : someCells(1 + random.nextInt(most));
        int other = rarely() ? cells : cells & ~own;
        meet("12 games", model.gameCount() == 12);
        same("begin " + variant + " " + first + " " + second + " " + own + " " + other,
                () -> model.begin(variant, first, second, own, other),
                () -> mill.begin(variant, first, second, own, other));
    }

    private void play() {
        int game = number(model.gameCount());
        int stretch = isQuiet ? 60 : 6;
        boolean isBack = random.nextBoolean();
        for (int i = 0; i < stretch; i++) {
            if (game < 0 || game >= model.gameCount() || rarely()) {
                moveSo(game, number(25), number(25));
                continue;
            }
            List<Model.Step> steps = model.openSteps(game);
            if (steps.isEmpty()) {
                moveSo(game, number(25), number(25));
                return;
            }
            Model.Step step = chosen(game, steps, isBack);
            moveSo(game, step.from(), step.to());
        }
    }

    private Model.Step chosen(int game, List<Model.Step> steps, boolean isBack) {
        Model.Step best = steps.get(random.nextInt(steps.size()));
        if (!isQuiet && !isBack) {
            return best;
        }
        int other = model.pieces(game, model.made(game) % 2 == 0);
        for (int i = 0; i < 8; i++) {
            Model.Step next = steps.get(random.nextInt(steps.size()));
            int more = model.timesBehind(game, next) - model.timesBehind(game, best);
            boolean takes = (other >> best.to() & 1) != 0;
            if (takes || (isBack ? more > 0 : more < 0) && (other >> next.to() & 1) == 0) {
                best = next;
            }
        }
        return best;
    }

    private void moveSo(int game, int from, int to) {
        boolean isGame = game >= 0 && game < model.gameCount();
        boolean wasOpen = isGame && model.state(game) == 0;
        boolean isAllowed = wasOpen && !model.openSteps(game).isEmpty()
                && model.openSteps(game).contains(new Model.Step(from, to));
        int endless = endlessInAll();
        int made = isGame ? model.made(game) : 0;
        same("move " + game + " " + from + " " + to,
                () -> model.move(game, from, to), () -> mill.move(game, from, to));
        if (isGame && wasOpen) {
            int state = model.state(game);
            meet("state " + state, true);
            meet("endless", endlessInAll() > endless);
            meet("sixty", state == 3 && endlessInAll() == endless);
            meet("void move", isAllowed && model.made(game) == made);
        }
    }

    private int endlessInAll() {
        int sum = 0;
        for (int variant = 0; variant < model.variantCount(); variant++) {
            sum += model.endless(variant);
        }
        return sum;
    }

    private void askMoves() {
        int game = number(model.gameCount());
        for (int i = 0; i < 4; i++) {
            int from = game >= 0 && game < model.gameCount() && random.nextBoolean()
                    ? ownCell(game) : number(25);
            int to = number(25);
            same("can " + game + " " + from + " " + to,
                    () -> model.can(game, from, to) ? 1 : 0, () -> mill.can(game, from, to) ? 1 : 0);
            same("canByAll " + game + " " + from + " " + to, () -> model.can(game, from, to) ? 1 : 0,
                    () -> mill.canByAll(game, from, to) ? 1 : 0);
        }
    }

    private int ownCell(int game) {
        int own = model.pieces(game, model.made(game) % 2 == 1);
        return own == 0 ? 0 : Integer.numberOfTrailingZeros(own);
    }

    private void askGame() {
        int game = number(model.gameCount());
        int depth = number(3);
        boolean isSecond = random.nextBoolean();
        same("state " + game, () -> model.state(game), () -> mill.state(game));
        same("pieces " + game + " " + isSecond,
                () -> model.pieces(game, isSecond), () -> mill.pieces(game, isSecond));
        same("made " + game, () -> model.made(game), () -> mill.made(game));
        String value = Due.outcome(() -> model.value(game, depth));
        meet("value " + value, true);
        same("value " + game + " " + depth,
                () -> model.value(game, depth), () -> mill.value(game, depth));
        same("valueByAll " + game + " " + depth,
                () -> model.value(game, depth), () -> mill.valueByAll(game, depth));
    }

    private void votes() {
        int variant = number(model.variantCount());
        for (int i = 0; i < 1 + random.nextInt(2); i++) {
            int player = number(5);
            same("vote " + player + " " + variant,
                    () -> model.vote(player, variant), () -> mill.vote(player, variant));
        }
    }

    private void askVariant() {
        int variant = number(model.variantCount());
        int player = number(5);
        same("isBanned " + variant, () -> model.isBanned(variant) ? 1 : 0,
                () -> mill.isBanned(variant) ? 1 : 0);
        same("endless " + variant, () -> model.endless(variant), () -> mill.endless(variant));
        same("points " + player + " " + variant,
                () -> model.points(player, variant), () -> mill.points(player, variant));
        if (variant >= 0 && variant < model.variantCount()) {
            boolean isForEver = model.endless(variant) >= 2;
            meet("banned for ever", isForEver);
            meet("banned by votes", model.isBanned(variant) && !isForEver);
            meet("points", player >= 0 && player < 5 && model.points(player, variant) > 1);
        }
    }
}
