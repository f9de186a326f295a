/** Edges of 'Random numbers', a test for each sentence that names one. */
final class DrawEdges {
    private static final int GREATEST = Integer.MAX_VALUE;

    private final Answers a;

    DrawEdges(Answers answers) {
        a = answers;
    }

    void run() {
        a.each(
            this::firstState,
            this::statesAtTheEnds,
            this::modulusOfTheState,
            this::wholeBlocksOfAState,
            this::modulusOfTheYield,
            this::theNewStateIsKept);
    }

    // With the cycle setting 8 a draw below 125 elects in round 0, one of 125 does not.
    private static int electedAfter(int state) {
        ClusterField x = Networks.atBase(1000);
        x.setSetting(0, 8);
        x.setGenerator(state);
        x.run(1);
        return x.headCount();
    }

    private void elects(String call, int newState, int want) {
        a.due(call, electedAfter(Draws.before(newState)), want);
    }

    private void firstState() {
        a.holds(5, "Random numbers", "The generator has a state X, at first 1");
        ClusterField x = Networks.full(1000);
        x.run(1);
        asDrawnFrom(1, x, "a new object");
    }

    // The heads of the first round must be the sensors whose draws are below 250.
    private void asDrawnFrom(int state, ClusterField x, String call) {
        int next = state;
        for (int n = 0; n < 12; n++) {
            next = Draws.next(next);
            a.due(call + ", head " + n, x.headRounds(n), Draws.drawn(next) < 250 ? 1 : 0);
        }
    }

    private void statesAtTheEnds() {
        a.holds(5, "Random numbers", "A draw replaces X by (X * 1103515245 + 12345) modulo 2147483648");
        int[] states = {0, 1, 65535, 65536, 1073741824, GREATEST - 1, GREATEST};
        for (int state : states) {
            ClusterField x = Networks.full(1000);
            x.setGenerator(state);
            x.run(1);
            asDrawnFrom(state, x, "state " + state);
        }
    }

    private void modulusOfTheState() {
        a.holds(5, "Random numbers", "modulo 2147483648");
        elects("a new state of 0", 0, 1);
        // 32767 modulo 1000 is 767; one more would run over the modulus to 0.
        elects("the greatest new state", GREATEST, 0);
        elects("half of the modulus", 1073741824, Draws.drawn(1073741824) < 125 ? 1 : 0);
        // Bit 31 of the product is set: without the modulus the number would be negative, or yield another one.
        int wraps = 0;
        for (int state = 1; state < 40; state++) {
            wraps += (state * 1103515245 + 12345) < 0 ? 1 : 0;
            int drawn = Draws.drawn(Draws.next(state));
            a.due("state " + state, electedAfter(state), drawn < 125 ? 1 : 0);
        }
        a.due("some of these set bit 31", wraps > 9 ? 1 : 0, 1);
    }

    private void wholeBlocksOfAState() {
        a.holds(5, "Random numbers", "and yields (X / 65536) modulo 1000, using the new X and integer division");
        elects("last new state that yields 124", 125 * 65536 - 1, 1);
        elects("first new state that yields 125", 125 * 65536, 0);
        elects("last new state that yields 0", 65535, 1);
        elects("first new state that yields 1000, modulo 1000", 1000 * 65536, 1);
    }

    private void modulusOfTheYield() {
        a.holds(5, "Random numbers", "(X / 65536) modulo 1000");
        elects("999", 1000 * 65536 - 1, 0);
        elects("1000 is 0", 1000 * 65536, 1);
        elects("1124 is 124", 1125 * 65536 - 1, 1);
        elects("1125 is 125", 1125 * 65536, 0);
        elects("31999 is 999", 32000 * 65536 - 1, 0);
        elects("32000 is 0", 32000 * 65536, 1);
        elects("32124 is 124", 32125 * 65536 - 1, 1);
        elects("32125 is 125", 32125 * 65536, 0);
    }

    private void theNewStateIsKept() {
        a.holds(5, "Random numbers", "A draw replaces X");
        ClusterField x = Networks.atBase(1000);
        x.setSetting(0, 8);
        x.setGenerator(GREATEST);
        int state = GREATEST;
        for (int round = 0; round < 8 && x.headRounds(0) == 0; round++) {
            state = Draws.next(state);
            x.run(1);
            a.due("round " + round, x.headCount(), Draws.drawn(state) * (8 - round) < 1000 ? 1 : 0);
        }
        a.due("a head in the end", x.headRounds(0), 1);
    }
}
