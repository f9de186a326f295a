/** Edges of 'Forecasts' and 'Undo and snapshots', a test for each sentence that names one. */
final class UndoEdges {
    private static final int INVALID = -1;
    private static final int ILLEGAL = -2;
    private static final int NONE = -9;

    private final Answers a;

    UndoEdges(Answers answers) {
        a = answers;
    }

    void run() {
        a.each(
            this::forecastUntilAllAreDead,
            this::forecastOfTheGivenRounds,
            this::forecastChangesNothing,
            this::undoBringsBackEverything,
            this::restoreBringsBackEverything,
            this::undoBringsBackTheGenerator,
            this::snapshotsAreNoPartOfTheState,
            this::numberOfSavedStatesIsNoPart,
            this::eachOfTheSixSaves,
            this::nothingElseSaves,
            this::refusedCallsSaveNothing,
            this::mostRecentFirst,
            this::discardedWhenRestored,
            this::sixStates,
            this::seventhState,
            this::manyStates,
            this::twoSlots);
    }

    private void forecastUntilAllAreDead() {
        a.holds(24, "Forecasts", "A forecast performs rounds on a copy of the network until no sensor is alive");
        ClusterField x = Networks.elect(Networks.atBase(5, 4), "00");
        a.due("one reading, then all die", x.forecastDelivered(300), 1);
        a.due("the last one dies in round 1", x.forecastDeath(0, 300), 1);
        a.due("the first one in round 0", x.forecastDeath(1, 300), 0);
        a.due("nobody to begin with", new ClusterField().forecastDelivered(300), 0);
    }

    private void forecastOfTheGivenRounds() {
        a.holds(23, "Forecasts", "or until a given number of rounds has been performed");
        // With nothing but sending to pay, 1 unit a round.
        ClusterField x = Networks.atBase(299);
        x.setSetting(1, 1);
        x.setSetting(3, 0);
        x.setSetting(4, 0);
        a.due("death in the last round of the greatest", x.forecastDeath(0, 300), 299);
        a.due("one round less", x.forecastDeath(0, 299), NONE);
        a.due("one round", x.forecastDelivered(1), 1);
        a.due("299 rounds", x.forecastDelivered(299), 299);
        a.due("300 rounds", x.forecastDelivered(300), 299);
        x.charge(0, 1);
        a.due("all of 300 rounds", x.forecastDelivered(300), 300);
        a.due("alive at the end", x.forecastDeath(0, 300), NONE);
    }

    private void forecastChangesNothing() {
        a.holds(24, "Forecasts", "the network itself does not change");
        ClusterField x = busy();
        ClusterField twin = busy();
        x.forecastDelivered(300);
        x.forecastDeath(0, 300);
        a.same("told after forecasts", Answers.told(x), Answers.told(twin));
        x.run(5);
        twin.run(5);
        a.same("told after more rounds", Answers.told(x), Answers.told(twin));
        x.undo();
        x.forecastDelivered(300);
        a.due("saved states", x.undo(), 4);
        twin.undo();
        twin.undo();
        a.same("told after undo", Answers.told(x), Answers.told(twin));
    }

    // Six saved states, heads, members and a dead sensor, and slot 0 filled.
    private static ClusterField busy() {
        ClusterField x = new ClusterField();
        x.addSensor(10, 20, 100000);
        x.addSensor(30, 80, 0);
        x.addSensor(70, 90, 5000);
        x.addSensor(71, 95, 5000);
        x.setSetting(5, 1);
        x.run(3);
        x.save(0);
        x.charge(0, 77);
        x.run(2);
        return x;
    }

    private void undoBringsBackEverything() {
        a.holds(25, "Undo and snapshots", "The state consists of everything that the methods of this class can tell");
        ClusterField x = twoHeads();
        int[] before = Answers.told(x);
        changeEverything(x);
        a.due("what has changed", changes(before, Answers.told(x), 4), 6 + 7);
        for (int left = 5; left >= 0; left--) {
            a.due("states left", x.undo(), left);
        }
        before[6] = 0;  // the number of saved states
        a.same("told after six times undo", Answers.told(x), before);
        restIsAsBefore(x);
    }

    private void restoreBringsBackEverything() {
        a.holds(28, "Undo and snapshots", "The state consists of everything that the methods of this class can tell");
        ClusterField x = twoHeads();
        int[] before = Answers.told(x);
        x.save(1);
        changeEverything(x);
        x.restore(1);
        before[6] = 0;  // the number of saved states
        a.same("told after restore", Answers.told(x), before);
        restIsAsBefore(x);
    }

    private static ClusterField twoHeads() {
        return Networks.runOne(Networks.atBase(1000, 1000, 4, 30), "1100");
    }

    // Round 1 has head 3, which dies, and round 2 has head 0.
    private static void changeEverything(ClusterField x) {
        x.setSetting(0, 2);
        x.setSetting(1, 50);
        x.charge(0, 100);
        x.moveBase(0, 0);
        Networks.elect(x, 2, "010").run(2);
    }

    // How many of the methods answer otherwise: six for the network, and seven for at least one of the sensors.
    private static int changes(int[] before, int[] after, int sensors) {
        int changes = 0;
        for (int n = 0; n < 6; n++) {
            changes += before[n] == after[n] ? 0 : 1;
        }
        for (int method = 0; method < 7; method++) {
            int changed = 0;
            for (int at = 7 + method; at < before.length - 1; at += 9 + sensors) {
                changed |= before[at] == after[at] ? 0 : 1;
            }
            changes += changed;
        }
        return changes;
    }

    private void restIsAsBefore(ClusterField x) {
        a.due("cycle", x.setSetting(0, 4), ILLEGAL);
        a.due("electronics", x.setSetting(1, 5), ILLEGAL);
        a.due("base", x.moveBase(0, 0), 200 * 50 + 50);
    }

    private void undoBringsBackTheGenerator() {
        a.holds(25, "Undo and snapshots", "and of the state of the generator");
        ClusterField x = Networks.elect(Networks.atBase(1000, 1000), "10");
        x.run(1);
        x.undo();
        x.run(1);
        a.due("after undo of run", x.headOf(1), 0);
        x.undo();
        x.setGenerator(Draws.electing(4, "01"));
        x.undo();
        x.run(1);
        a.due("after undo of setGenerator", x.headOf(1), 0);
        x.undo();
        x.save(1);
        x.setGenerator(Draws.electing(4, "01"));
        x.restore(1);
        x.run(1);
        a.due("after restore", x.headOf(1), 0);
    }

    private void snapshotsAreNoPartOfTheState() {
        a.holds(27, "Undo and snapshots", "except the snapshots and the number of saved states");
        ClusterField x = Networks.atBase(1000);
        x.save(0);
        x.addSensor(1, 1, 1);
        x.save(1);
        x.undo();
        a.due("sensors after undo", x.sensorCount(), 1);
        a.due("undo does not empty a slot", x.restore(1), 2);
        a.due("nor does restore", x.restore(0), 1);
        a.due("nor does restore fill one with an older one", x.restore(1), 2);
    }

    private void numberOfSavedStatesIsNoPart() {
        a.holds(26, "Undo and snapshots", "except the snapshots and the number of saved states");
        ClusterField x = Networks.atBase(1000);
        x.save(0);
        a.due("two were saved before", x.undoDepth(), 2);
        x.restore(0);
        a.due("restore brings none of them back", x.undoDepth(), 0);
        x.charge(0, 1);
        a.due("one anew", x.undoDepth(), 1);
        a.due("undo leaves one less", x.undo(), 0);
        a.due("and not as many as the state had", x.undoDepth(), 0);
    }

    private void eachOfTheSixSaves() {
        a.holds(25, "Undo and snapshots", "Every successful call of addSensor(), moveBase(), setSetting(), "
                + "setGenerator(), charge() and run() saves the state that preceded it");
        for (int kind = 0; kind < 6; kind++) {
            ClusterField x = Networks.elect(Networks.atBase(1000, 1000), "10");
            int[] before = Answers.told(x);
            a.due("depth before " + kind, x.undoDepth(), 4);
            change(x, kind);
            a.due("depth after " + kind, x.undoDepth(), 5);
            a.due("undo of " + kind, x.undo(), 4);
            a.same("told after undo of " + kind, Answers.told(x), before);
            a.due("base after undo of " + kind, x.moveBase(9, 9), 200 * 50 + 50);
            a.due("setting after undo of " + kind, x.setSetting(2, 100), ILLEGAL);
        }
    }

    // One successful call of each method that saves, in the order in which the document names them.
    private static int change(ClusterField x, int kind) {
        return switch (kind) {
            case 0 -> x.addSensor(3, 3, 3);
            case 1 -> x.moveBase(50, 51);
            case 2 -> x.setSetting(2, 99);
            case 3 -> x.setGenerator(12345);
            case 4 -> x.charge(0, 1);
            default -> x.run(1);
        };
    }

    private void nothingElseSaves() {
        a.holds(26, "Undo and snapshots", "Every successful call of addSensor(), moveBase(), setSetting(), "
                + "setGenerator(), charge() and run() saves");
        ClusterField x = Networks.atBase(1000);
        Answers.told(x);
        x.save(0);
        x.save(1);
        a.due("queries, forecasts and save", x.undoDepth(), 2);
        x.undo();
        a.due("undo", x.undoDepth(), 1);
        x.restore(0);
        a.due("restore", x.undoDepth(), 0);
        x.run(50);
        a.due("fifty rounds of one call", x.undoDepth(), 1);
    }

    private void refusedCallsSaveNothing() {
        a.holds(26, "Undo and snapshots", "Every successful call");
        ClusterField x = Networks.runOne(Networks.atBase(4), "0");
        int depth = x.undoDepth();
        a.due("addSensor", x.addSensor(100, 0, 0), INVALID);
        a.due("moveBase", x.moveBase(200, 0), INVALID);
        a.due("setSetting, wrong", x.setSetting(0, 9), INVALID);
        a.due("setSetting, present", x.setSetting(0, 4), ILLEGAL);
        a.due("setGenerator", x.setGenerator(-1), INVALID);
        a.due("charge, wrong", x.charge(0, 0), INVALID);
        a.due("charge, dead", x.charge(0, 1), ILLEGAL);
        a.due("run, wrong", x.run(0), INVALID);
        a.due("run, all dead", x.run(1), ILLEGAL);
        a.due("depth", x.undoDepth(), depth);
        a.due("undo", x.undo(), depth - 1);
        a.due("undo of run", x.roundNumber(), 0);
    }

    private void mostRecentFirst() {
        a.holds(25, "Undo and snapshots", "undo() restores the most recently saved state");
        ClusterField x = Networks.atBase(1);
        x.charge(0, 10);
        x.charge(0, 100);
        a.due("charged twice", x.battery(0), 111);
        x.undo();
        a.due("once", x.battery(0), 11);
        x.undo();
        a.due("never", x.battery(0), 1);
    }

    private void discardedWhenRestored() {
        a.holds(25, "Undo and snapshots", "restores the most recently saved state and discards it");
        ClusterField x = Networks.atBase(1);
        x.charge(0, 10);
        x.undo();
        x.charge(0, 100);
        a.due("depth", x.undoDepth(), 3);
        a.due("undo", x.undo(), 2);
        a.due("before the second charge", x.battery(0), 1);
        a.due("undo of addSensor", x.undo(), 1);
        a.due("no sensor", x.sensorCount(), 0);
        a.due("undo of moveBase", x.undo(), 0);
        a.due("nothing left", x.undo(), ILLEGAL);
        a.due("nothing left, again", x.undo(), ILLEGAL);
        a.due("depth at last", x.undoDepth(), 0);
    }

    private static ClusterField charged(int times) {
        ClusterField x = new ClusterField();
        x.addSensor(0, 0, 0);
        x.save(0);
        x.restore(0);
        for (int n = 0; n < times; n++) {
            x.charge(0, 1);
        }
        return x;
    }

    private void sixStates() {
        a.holds(26, "Undo and snapshots", "At most 6 states are saved");
        ClusterField x = charged(6);
        a.due("depth", x.undoDepth(), 6);
        for (int left = 5; left >= 0; left--) {
            a.due("undo", x.undo(), left);
            a.due("battery", x.battery(0), left);
        }
        a.due("a seventh undo", x.undo(), ILLEGAL);
    }

    private void seventhState() {
        a.holds(26, "Undo and snapshots", "when a seventh is saved, the oldest one is discarded");
        ClusterField x = charged(7);
        a.due("depth", x.undoDepth(), 6);
        for (int left = 5; left >= 0; left--) {
            a.due("undo", x.undo(), left);
            a.due("battery", x.battery(0), left + 1);
        }
        a.due("the oldest is gone", x.undo(), ILLEGAL);
        a.due("battery of the second oldest", x.battery(0), 1);
    }

    // Runs over the end of the six places several times, with undo in between.
    private void manyStates() {
        a.holds(26, "Undo and snapshots", "At most 6 states are saved; when a seventh is saved, the oldest one is "
                + "discarded");
        ClusterField x = charged(20);
        a.due("undo", x.undo(), 5);
        a.due("undo", x.undo(), 4);
        for (int n = 18; n < 37; n++) {
            a.due("charge", x.charge(0, 1), n + 1);
            a.due("depth", x.undoDepth(), Math.min(6, n - 18 + 5));
        }
        for (int left = 5; left >= 0; left--) {
            a.due("undo", x.undo(), left);
            a.due("battery", x.battery(0), 31 + left);
        }
        a.due("no more", x.undo(), ILLEGAL);
    }

    private void twoSlots() {
        a.holds(27, "Undo and snapshots", "There are two snapshot slots, 0 and 1");
        ClusterField x = Networks.atBase(1000);
        a.due("slot -1", x.save(-1), INVALID);
        a.due("slot 2", x.save(2), INVALID);
        a.due("slot 0", x.save(0), 1);
        x.addSensor(1, 1, 1);
        a.due("slot 1", x.save(1), 2);
        a.due("slot 0 is another one", x.restore(0), 1);
        a.due("slot 1 is another one", x.restore(1), 2);
    }
}
