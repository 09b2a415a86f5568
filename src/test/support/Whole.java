/** All that an object answers and goes on to answer, as a text: less than 300 calls. */
final class Whole {
    private final VariantMill x;
    private final StringBuilder text = new StringBuilder();

    private Whole(VariantMill x) {
        this.x = x;
    }

    /**
     * Two objects that stand alike tell the same. What cannot be read, as the times that pieces
     * were there, or who votes, shows in what they answer when games, votes and sets go on.
     */
    static String tell(VariantMill x) {
        Whole whole = new Whole(x);
        whole.games();
        whole.variants();
        whole.gamesGoOn();
        whole.newOnes();
        whole.votesGoOn();
        return whole.text.toString();
    }

    private void add(String what, Due.Call call) {
        text.append(what).append(' ').append(Due.outcome(call)).append('\n');
    }

    private void games() {
        for (int game = 0; game <= 12; game++) {
            int g = game;
            add("state " + g, () -> x.state(g));
            add("first " + g, () -> x.pieces(g, false));
            add("second " + g, () -> x.pieces(g, true));
            add("made " + g, () -> x.made(g));
            add("value " + g, () -> x.value(g, 1));
        }
    }

    private void variants() {
        for (int variant = 0; variant <= 4; variant++) {
            int v = variant;
            add("isBanned " + v, () -> x.isBanned(v) ? 1 : 0);
            add("endless " + v, () -> x.endless(v));
            for (int player = 0; player < 5; player++) {
                int one = player;
                add("points " + one + " " + v, () -> x.points(one, v));
            }
        }
    }

    private void gamesGoOn() {
        for (int game = 0; game < 12; game++) {
            for (int move = 0; move < 8; move++) {
                int g = game;
                int from = move;
                add("to and fro " + g + " " + from, () -> FourWays.toAndFro(x, g, from, from + 1));
            }
        }
    }

    private void newOnes() {
        for (int i = 0; i < 13; i++) {
            int v = i % 4;
            add("begin of " + v, () -> x.begin(v, 0, 1, Due.set(6), Due.set(18)));
        }
        for (int variant = 0; variant <= 4; variant++) {
            int v = variant;
            add("setCards " + v, () -> x.setCards(v, 1));
        }
        for (int i = 0; i <= 4; i++) {
            add("variant", () -> x.variant(0, 1));
        }
        for (int i = 0; i <= 8; i++) {
            add("card", () -> x.card(VariantMill.LEAP, 1, 0, 1));
        }
    }

    private void votesGoOn() {
        for (int variant = 0; variant <= 4; variant++) {
            int v = variant;
            for (int player = 0; player < 5; player++) {
                int one = player;
                add("vote " + one + " " + v, () -> x.vote(one, v));
            }
            add("then isBanned " + v, () -> x.isBanned(v) ? 1 : 0);
            add("then endless " + v, () -> x.endless(v));
        }
    }
}
