import java.util.ArrayList;
import java.util.HashMap;
import java.util.List;
import java.util.Map;
import java.util.Set;
import java.util.TreeSet;

/** The document told a second time, on boards of characters: what VariantMill is compared with. */
final class Model {
    private static final char EMPTY = '.', HOLE = '#', FIRST = 'F', SECOND = 'S';

    private record CardOf(int kind, int dx, int dy, int reach) {
    }

    record Step(int from, int to) {
    }

    private static final class VariantOf {
        int holes;
        int cards;
        int endless;
        final Set<Integer> voters = new TreeSet<>();
    }

    private static final class GameOf {
        int variant;
        List<CardOf> cards;
        int first;
        int second;
        String board;
        boolean isSecond;
        int made;
        int state;
        final Map<String, Integer> times = new HashMap<>();
    }

    private final List<CardOf> cards = new ArrayList<>();
    private final List<VariantOf> variants = new ArrayList<>();
    private final List<GameOf> games = new ArrayList<>();

    int card(int kind, int dx, int dy, int reach) {
        need(kind >= 0 && kind <= 2 && Math.abs((long) dx) <= 2 && Math.abs((long) dy) <= 2);
        need(reach >= 1 && reach <= 4 && !(dx == 0 && dy == 0));
        allow(cards.size() < 8);
        cards.add(new CardOf(kind, dx, dy, reach));
        return cards.size() - 1;
    }

    int variant(int holes, int set) {
        need(holes >= 0 && holes <= 33554431);
        needCards(set);
        allow(variants.size() < 4);
        VariantOf v = new VariantOf();
        v.holes = holes;
        v.cards = set;
        variants.add(v);
        return variants.size() - 1;
    }

    int setCards(int variant, int set) {
        find(variant, variants.size());
        needCards(set);
        VariantOf v = variants.get(variant);
        int before = v.cards;
        v.cards = set;
        return before;
    }

    int begin(int variant, int first, int second, int own, int other) {
        find(variant, variants.size());
        find(first, 5);
        find(second, 5);
        VariantOf v = variants.get(variant);
        need(first != second);
        needSide(own, v.holes);
        needSide(other, v.holes);
        need((own & other) == 0);
        allow(!isBanned(variant));
        allow(games.size() < 12);
        GameOf g = new GameOf();
        g.variant = variant;
        g.first = first;
        g.second = second;
        g.cards = chosen(v.cards);
        StringBuilder board = new StringBuilder();
        for (int cell = 0; cell < 25; cell++) {
            board.append(has(own, cell) ? FIRST : has(other, cell) ? SECOND
                    : has(v.holes, cell) ? HOLE : EMPTY);
        }
        g.board = board.toString();
        allow(!steps(g.board, g.cards, false).isEmpty());
        g.times.put(g.board + false, 1);
        games.add(g);
        return games.size() - 1;
    }

    boolean can(int game, int from, int to) {
        find(game, games.size());
        find(from, 25);
        find(to, 25);
        return openSteps(game).contains(new Step(from, to));
    }

    int move(int game, int from, int to) {
        find(game, games.size());
        find(from, 25);
        find(to, 25);
        GameOf g = games.get(game);
        allow(g.state == 0 && !isBanned(g.variant));
        allow(openSteps(game).contains(new Step(from, to)));
        boolean wasSecond = g.isSecond;
        g.board = behind(g.board, new Step(from, to));
        g.isSecond = !wasSecond;
        g.made++;
        int times = g.times.merge(g.board + g.isSecond, 1, Integer::sum);
        boolean isLost = g.board.indexOf(g.isSecond ? SECOND : FIRST) < 0
                || steps(g.board, g.cards, g.isSecond).isEmpty();
        if (isLost) {
            g.state = wasSecond ? 2 : 1;
        } else if (times == 3) {
            g.state = 3;
            variants.get(g.variant).endless++;
        } else if (g.made == 60) {
            g.state = 3;
        }
        return g.state;
    }

    int state(int game) {
        find(game, games.size());
        return games.get(game).state;
    }

    int pieces(int game, boolean isSecond) {
        find(game, games.size());
        int set = 0;
        for (int cell = 0; cell < 25; cell++) {
            if (games.get(game).board.charAt(cell) == (isSecond ? SECOND : FIRST)) {
                set |= 1 << cell;
            }
        }
        return set;
    }

    int made(int game) {
        find(game, games.size());
        return games.get(game).made;
    }

    int value(int game, int depth) {
        find(game, games.size());
        need(depth >= 0 && depth <= 2);
        GameOf g = games.get(game);
        return worth(g.board, g.cards, g.isSecond, depth);
    }

    int vote(int player, int variant) {
        find(player, 5);
        find(variant, variants.size());
        Set<Integer> voters = variants.get(variant).voters;
        if (!voters.remove(player)) {
            voters.add(player);
        }
        return voters.size();
    }

    boolean isBanned(int variant) {
        find(variant, variants.size());
        return variants.get(variant).voters.size() >= 3 || variants.get(variant).endless >= 2;
    }

    int endless(int variant) {
        find(variant, variants.size());
        return variants.get(variant).endless;
    }

    int points(int player, int variant) {
        find(player, 5);
        find(variant, variants.size());
        int points = 0;
        for (GameOf g : games) {
            if (g.variant == variant && !isBanned(variant)) {
                points += g.state == 1 && g.first == player ? 3 : 0;
                points += g.state == 2 && g.second == player ? 3 : 0;
                points += g.state == 3 && (g.first == player || g.second == player) ? 1 : 0;
            }
        }
        return points;
    }

    int cardCount() {
        return cards.size();
    }

    int variantCount() {
        return variants.size();
    }

    int gameCount() {
        return games.size();
    }

    /** All steps of the one to move; none if the game is not open. */
    List<Step> openSteps(int game) {
        GameOf g = games.get(game);
        return g.state == 0 ? steps(g.board, g.cards, g.isSecond) : new ArrayList<>();
    }

    /** How often what comes behind a step has been there. */
    int timesBehind(int game, Step step) {
        GameOf g = games.get(game);
        return g.times.getOrDefault(behind(g.board, step) + !g.isSecond, 0);
    }

    private static String behind(String board, Step step) {
        StringBuilder text = new StringBuilder(board);
        text.setCharAt(step.to(), board.charAt(step.from()));
        text.setCharAt(step.from(), EMPTY);
        return text.toString();
    }

    private static int worth(String board, List<CardOf> cards, boolean isSecond, int depth) {
        List<Step> steps = steps(board, cards, isSecond);
        if (steps.isEmpty()) {
            return -100;
        }
        if (depth == 0) {
            int more = count(board, FIRST) - count(board, SECOND);
            return isSecond ? -more : more;
        }
        int best = Integer.MIN_VALUE;
        for (Step step : steps) {
            best = Math.max(best, -worth(behind(board, step), cards, !isSecond, depth - 1));
        }
        return best;
    }

    private static int count(String board, char piece) {
        return (int) board.chars().filter(c -> c == piece).count();
    }

    private static List<Step> steps(String board, List<CardOf> cards, boolean isSecond) {
        char own = isSecond ? SECOND : FIRST;
        List<Step> steps = new ArrayList<>();
        for (int from = 0; from < 25; from++) {
            for (int to = 0; to < 25 && board.charAt(from) == own; to++) {
                if (board.charAt(to) != own && board.charAt(to) != HOLE) {
                    for (CardOf card : cards) {
                        if (says(board, card, from, to, isSecond)) {
                            steps.add(new Step(from, to));
                            break;
                        }
                    }
                }
            }
        }
        return steps;
    }

    /** Finds the number of steps from the difference of the cells, then reads the cells passed. */
    private static boolean says(String board, CardOf card, int from, int to, boolean isSecond) {
        int columns = to % 5 - from % 5;
        int rows = to / 5 - from / 5;
        int dy = isSecond ? -card.dy() : card.dy();
        int most = card.kind() == VariantMill.LEAP ? 1 : card.reach();
        int far = 0;
        for (int n = 1; n <= most; n++) {
            if (n * card.dx() == columns && n * dy == rows) {
                far = n;
            }
        }
        if (far == 0) {
            return false;
        }
        StringBuilder passed = new StringBuilder();
        for (int n = 1; n < far; n++) {
            passed.append(board.charAt(from + n * (card.dx() + 5 * dy)));
        }
        return passed.toString().matches(card.kind() == VariantMill.HOP ? "\\.*[FS]" : "\\.*");
    }

    private List<CardOf> chosen(int set) {
        List<CardOf> chosen = new ArrayList<>();
        for (int number = 0; number < cards.size(); number++) {
            if (has(set, number)) {
                chosen.add(cards.get(number));
            }
        }
        return chosen;
    }

    private static boolean has(int set, int member) {
        return (set & 1 << member) != 0;
    }

    private void needCards(int set) {
        need(set >= 1);
        for (int number = cards.size(); number < 31; number++) {
            need(!has(set, number));
        }
    }

    private static void needSide(int set, int holes) {
        need(set > 0 && set < 1 << 25 && Integer.bitCount(set) <= 6 && (set & holes) == 0);
    }

    private static void find(int number, int count) {
        if (number < 0 || number >= count) {
            throw new IndexOutOfBoundsException();
        }
    }

    private static void need(boolean isInRange) {
        if (!isInRange) {
            throw new IllegalArgumentException();
        }
    }

    private static void allow(boolean isAllowed) {
        if (!isAllowed) {
            throw new IllegalStateException();
        }
    }
}
