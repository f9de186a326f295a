/** Edges of 'What it is', 'Network' and 'Energy', a test for each sentence that names one. */
final class NetworkEdges {
    private static final int INVALID = -1;
    private static final int ILLEGAL = -2;
    private static final int FULL = -3;
    private static final int NONE = -9;

    private final Answers a;

    NetworkEdges(Answers answers) {
        a = answers;
    }

    void run() {
        a.each(
            this::lastCallOfAnObject,
            this::dearestCallsOfAnObject,
            this::twelveSensors,
            this::cornersOfTheField,
            this::firstBase,
            this::cornersForTheBase,
            this::leastAndGreatestDistance,
            this::aliveUntilItDies,
            this::deadForGood,
            this::deadKeepsItsBattery,
            this::cycleSetting,
            this::electronicsSetting,
            this::divisorSetting,
            this::aggregationSetting,
            this::announcementSetting,
            this::routingSetting,
            this::costOfSending,
            this::costOfReceiving,
            this::costOfAggregating,
            this::costOfAnnouncing,
            this::exactlyAsManyUnits,
            this::noUnitsForNoCost,
            this::oneUnitTooFew,
            this::deadAtOnce);
    }

    private void lastCallOfAnObject() {
        a.holds(7, "What it is", "An object is used for at most 512 calls after it has been made");
        ClusterField x = new ClusterField();
        x.addSensor(50, 50, 100000);
        x.moveBase(50, 50);
        x.setSetting(1, 1);
        x.setSetting(3, 0);
        x.setSetting(4, 0);
        for (int call = 6; call <= 510; call++) {
            a.due("call " + call, x.run(50), 50);
        }
        a.due("call 511", x.battery(0), 100000 - 505 * 50);
        a.due("call 512", x.roundNumber(), 505 * 50);
    }

    private void dearestCallsOfAnObject() {
        a.holds(24, "What it is", "An object is used for at most 512 calls after it has been made");
        ClusterField x = Networks.full(100000);
        for (int call = 14; call <= 512; call++) {
            a.due("call " + call, x.forecastDelivered(300), 300 * 12);
        }
    }

    private void twelveSensors() {
        a.holds(2, "Network",
                "There are at most 12 sensors, numbered from 0 in the order in which they are added");
        ClusterField x = new ClusterField();
        for (int n = 0; n < 12; n++) {
            a.due("sensor " + n, x.addSensor(n, n, 100 + n), n);
        }
        a.due("a 13th", x.addSensor(0, 0, 0), FULL);
        a.due("count", x.sensorCount(), 12);
        for (int n = 0; n < 12; n++) {
            a.due("battery " + n, x.battery(n), 100 + n);
        }
        x.undo();
        a.due("room again", x.addSensor(0, 0, 7), 11);
        a.due("a 13th again", x.addSensor(0, 0, 0), FULL);
    }

    private void cornersOfTheField() {
        a.holds(2, "Network", "A sensor has a position, two coordinates from 0 to 99, and a battery, "
                + "a number of energy units");
        ClusterField x = new ClusterField();
        a.due("least corner", x.addSensor(0, 0, 0), 0);
        a.due("greatest corner", x.addSensor(99, 99, 0), 1);
        a.due("second corner", x.addSensor(0, 99, 0), 2);
        a.due("third corner", x.addSensor(99, 0, 0), 3);
        x.setSetting(2, 1);
        a.due("across", x.sendCost(0, 1), 5 + 99 * 99 * 2);
        a.due("across the other way", x.sendCost(2, 3), 5 + 99 * 99 * 2);
        a.due("along y", x.sendCost(0, 2), 5 + 99 * 99);
        a.due("along x", x.sendCost(0, 3), 5 + 99 * 99);
        a.due("beyond in x", x.addSensor(100, 99, 0), INVALID);
        a.due("beyond in y", x.addSensor(99, 100, 0), INVALID);
    }

    private void firstBase() {
        a.holds(3, "Network", "The base station has a position with coordinates from 0 to 199, at first (50, 150)");
        ClusterField x = new ClusterField();
        x.addSensor(49, 99, 0);
        x.setSetting(2, 1);
        a.due("cost of sending there", x.sendCost(0, NONE), 5 + 1 + 51 * 51);
        a.due("position", x.moveBase(0, 0), 200 * 50 + 150);
    }

    private void cornersForTheBase() {
        a.holds(3, "Network", "The base station has a position with coordinates from 0 to 199");
        ClusterField x = new ClusterField();
        x.addSensor(0, 0, 0);
        x.setSetting(2, 1);
        x.moveBase(199, 199);
        a.due("from the greatest corner", x.sendCost(0, NONE), 5 + 2 * 199 * 199);
        a.due("beyond in x", x.moveBase(200, 199), INVALID);
        a.due("beyond in y", x.moveBase(199, 200), INVALID);
        x.moveBase(0, 199);
        a.due("along y", x.sendCost(0, NONE), 5 + 199 * 199);
        x.moveBase(199, 0);
        a.due("along x", x.sendCost(0, NONE), 5 + 199 * 199);
        x.moveBase(0, 0);
        a.due("at the least corner", x.sendCost(0, NONE), 5);
    }

    private void leastAndGreatestDistance() {
        a.holds(22, "Network",
                "The distance of two positions is the sum of the squares of the differences of their coordinates");
        ClusterField x = new ClusterField();
        x.addSensor(0, 0, 0);
        x.addSensor(0, 0, 0);
        x.addSensor(99, 99, 0);
        x.addSensor(98, 97, 0);
        x.setSetting(2, 1);
        a.due("the same place", x.sendCost(0, 1), 5);
        a.due("the greatest distance", x.sendCost(0, 2), 5 + 19602);
        a.due("the greatest, both differences negative", x.sendCost(2, 0), 5 + 19602);
        a.due("squares are added", x.sendCost(3, 2), 5 + 1 + 4);
        a.due("and the other way", x.sendCost(2, 3), 5 + 1 + 4);
    }

    private void aliveUntilItDies() {
        a.holds(11, "Network", "A sensor is alive until it dies");
        ClusterField x = Networks.atBase(0, 5);
        a.due("with no units", x.isAlive(0), 1);
        Networks.runOne(x, "00");
        a.due("after it could not pay", x.isAlive(0), 0);
        a.due("after it paid its last unit", x.isAlive(1), 1);
        a.due("its battery", x.battery(1), 0);
    }

    private void deadForGood() {
        a.holds(11, "Network", "A dead sensor never becomes alive again");
        ClusterField x = Networks.runOne(Networks.atBase(4, 100000), "00");
        for (int round = 1; round <= 9; round++) {
            a.due("before round " + round, x.isAlive(0), 0);
            x.setGenerator(Draws.drawing(0));
            x.run(1);
            a.due("not a head in round " + round, x.headRounds(0), 0);
        }
        a.due("charge", x.charge(0, 1), ILLEGAL);
        x.run(50);
        a.due("in the end", x.isAlive(0), 0);
        a.due("counted", x.aliveCount(), 1);
    }

    private void deadKeepsItsBattery() {
        a.holds(12, "Network", "A dead sensor never becomes alive again; it keeps the battery that it has");
        ClusterField x = Networks.runOne(Networks.atBase(4, 100000), "00");
        a.due("in the round of its death", x.battery(0), 4);
        // Of this battery the costs of later rounds could be paid, if the dead paid.
        x.setSetting(1, 1);
        x.run(50);
        a.due("after later rounds", x.battery(0), 4);
    }

    private void range(int setting, int least, int first, int greatest) {
        ClusterField x = new ClusterField();
        a.due("at first", x.setSetting(setting, first), ILLEGAL);
        a.due("one below the least", x.setSetting(setting, least - 1), INVALID);
        a.due("one above the greatest", x.setSetting(setting, greatest + 1), INVALID);
        a.due("the greatest", x.setSetting(setting, greatest), first);
        a.due("the greatest again", x.setSetting(setting, greatest), ILLEGAL);
        a.due("the least", x.setSetting(setting, least), greatest);
        a.due("the least again", x.setSetting(setting, least), ILLEGAL);
        a.due("one below the least, again", x.setSetting(setting, least - 1), INVALID);
        a.due("setting 6", x.setSetting(6, first), INVALID);
    }

    private static ClusterField with(int setting, int value, ClusterField x) {
        x.setSetting(setting, value);
        return x;
    }

    private void cycleSetting() {
        a.holds(4, "Network", "There are six settings: 0 cycle, 2 to 8 rounds, at first 4");
        range(0, 2, 4, 8);
        int[] cycles = {2, 4, 8};
        for (int cycle : cycles) {
            ClusterField x = with(0, cycle, Networks.atBase(1000));
            for (int round = 0; round < cycle; round++) {
                x.setGenerator(Draws.drawing(999));
                x.run(1);
                // A draw of 999 elects in the last phase alone.
                a.due("round " + round + " of cycle " + cycle, x.headCount(), round == cycle - 1 ? 1 : 0);
            }
        }
    }

    private void electronicsSetting() {
        a.holds(4, "Network", "1 electronics, 1 to 50, at first 5");
        range(1, 1, 5, 50);
        a.due("cost at first", Networks.atBase(0).sendCost(0, NONE), 5);
        a.due("least cost", with(1, 1, Networks.atBase(0)).sendCost(0, NONE), 1);
        a.due("greatest cost", with(1, 50, Networks.atBase(0)).sendCost(0, NONE), 50);
    }

    private void divisorSetting() {
        a.holds(4, "Network", "2 divisor, 1 to 1000, at first 100");
        range(2, 1, 100, 1000);
        ClusterField x = new ClusterField();
        x.addSensor(0, 0, 0);
        x.addSensor(99, 99, 0);
        a.due("cost at first", x.sendCost(0, 1), 5 + 196);
        a.due("cost with the least", with(2, 1, x).sendCost(0, 1), 5 + 19602);
        a.due("cost with the greatest", with(2, 1000, x).sendCost(0, 1), 5 + 19);
    }

    private void aggregationSetting() {
        a.holds(4, "Network", "3 aggregation, 0 to 20, at first 1");
        range(3, 0, 1, 20);
        int[] costs = {0, 1, 20};
        for (int cost : costs) {
            ClusterField x = Networks.runOne(with(3, cost, Networks.atBase(1000)), "1");
            a.due("a lone head's round with " + cost, x.energyPaid(), 2 + cost + 5);
        }
    }

    private void announcementSetting() {
        a.holds(4, "Network", "4 announcement, 0 to 50, at first 2");
        range(4, 0, 2, 50);
        int[] costs = {0, 2, 50};
        for (int cost : costs) {
            ClusterField x = Networks.runOne(with(4, cost, Networks.atBase(1000)), "1");
            a.due("a lone head's round with " + cost, x.energyPaid(), cost + 1 + 5);
        }
    }

    private void routingSetting() {
        a.holds(4, "Network", "5 routing, 0 (direct) or 1 (relay), at first 0");
        range(5, 0, 0, 1);
        ClusterField x = new ClusterField();
        x.addSensor(50, 50, 1000);
        x.addSensor(50, 60, 1000);
        x.moveBase(50, 70);
        Networks.runOne(x, "11");
        a.due("0 sends to the base at first", x.battery(0), 1000 - 2 - 1 - (5 + 4));
        x.undo();
        with(5, 1, x).run(1);
        a.due("0 sends to the relay", x.battery(0), 1000 - 2 - 1 - (5 + 1));
        a.due("the relay forwards", x.battery(1), 1000 - 2 - 1 - (5 + 1) - (5 + 1));
        x.undo();
        with(5, 0, x).run(1);
        a.due("0 sends to the base again", x.battery(0), 1000 - 2 - 1 - (5 + 4));
    }

    private void costOfSending() {
        a.holds(22, "Energy",
                "To send a message over a distance d costs electronics + d / divisor units (integer division)");
        ClusterField x = new ClusterField();
        x.addSensor(0, 0, 1000);
        x.addSensor(10, 0, 1000);
        int[][] divisorAndCost = {{101, 5}, {100, 6}, {99, 6}, {51, 6}, {50, 7}};
        for (int[] pair : divisorAndCost) {
            x.setSetting(2, pair[0]);
            a.due("distance 100, divisor " + pair[0], x.sendCost(0, 1), pair[1]);
            ClusterField y = new ClusterField();
            y.addSensor(0, 0, 100000);
            y.addSensor(10, 0, 100000);
            y.setSetting(2, pair[0]);
            Networks.runOne(y, "10");
            a.due("paid in a round, divisor " + pair[0], y.battery(1), 100000 - pair[1]);
        }
    }

    private void costOfReceiving() {
        a.holds(7, "Energy", "To receive a message costs electronics units");
        int[] electronics = {1, 5, 50};
        for (int cost : electronics) {
            ClusterField x = new ClusterField();
            x.addSensor(99, 99, 1000);
            x.addSensor(0, 0, 100000);
            x.moveBase(99, 99);
            x.setSetting(1, cost);
            x.setSetting(2, 1);
            Networks.runOne(x, "10");
            a.due("the distance costs the sender, with " + cost, x.battery(1), 100000 - cost - 19602);
            a.due("and not the receiver, with " + cost, x.battery(0), 1000 - 2 - (cost + 1) - 1 - cost);
        }
    }

    private void costOfAggregating() {
        a.holds(7, "Energy", "To aggregate a message costs aggregation units");
        int[] costs = {0, 1, 20};
        for (int cost : costs) {
            ClusterField x = Networks.runOne(with(3, cost, Networks.atBase(1000, 1000)), "10");
            a.due("a message and an own reading, with " + cost, x.battery(0), 1000 - 2 - (5 + cost) - cost - 5);
        }
    }

    private void costOfAnnouncing() {
        a.holds(7, "Energy", "To announce itself costs a head announcement units");
        int[] costs = {0, 2, 50};
        for (int cost : costs) {
            ClusterField x = Networks.runOne(with(4, cost, Networks.atBase(1000, 1000)), "10");
            a.due("the head, with " + cost, x.battery(0), 1000 - cost - 6 - 1 - 5);
            a.due("its member, with " + cost, x.battery(1), 1000 - 5);
        }
    }

    private void exactlyAsManyUnits() {
        a.holds(7, "Energy", "A sensor pays for an action if its battery has at least as many units as the action "
                + "costs: they are taken from the battery");
        ClusterField x = Networks.runOne(Networks.atBase(5), "0");
        a.due("alive", x.isAlive(0), 1);
        a.due("nothing left", x.battery(0), 0);
        a.due("paid", x.energyPaid(), 5);
        a.due("delivered", x.lastDelivered(), 1);
        ClusterField y = Networks.runOne(Networks.atBase(6), "0");
        a.due("one left", y.battery(0), 1);
    }

    private void noUnitsForNoCost() {
        a.holds(7, "Energy", "A sensor pays for an action if its battery has at least as many units as the action");
        ClusterField x = with(4, 0, with(3, 0, Networks.atBase(0)));
        Networks.runOne(x, "1");
        a.due("announces for nothing", x.headRounds(0), 1);
        a.due("counts as head", x.headCount(), 1);
        a.due("dies of sending", x.isAlive(0), 0);
        a.due("paid nothing", x.energyPaid(), 0);
        ClusterField y = with(4, 0, with(3, 0, Networks.atBase(5)));
        Networks.runOne(y, "1");
        a.due("all for the price of sending", y.lastDelivered(), 1);
        a.due("alive", y.isAlive(0), 1);
    }

    private void oneUnitTooFew() {
        a.holds(7, "Energy", "If the battery has fewer units, the sensor does not pay, and it dies at once");
        ClusterField x = Networks.runOne(Networks.atBase(4), "0");
        a.due("dead", x.isAlive(0), 0);
        a.due("keeps its units", x.battery(0), 4);
        a.due("paid", x.energyPaid(), 0);
        a.due("not delivered", x.lastDelivered(), 0);
    }

    private void deadAtOnce() {
        a.holds(7, "Energy", "the sensor does not pay, and it dies at once");
        // 4 units are too few for receiving, but would do for aggregating, if the head lived on.
        ClusterField x = Networks.runOne(Networks.atBase(6, 1000), "10");
        a.due("nothing is paid after death", x.battery(0), 4);
        a.due("died in the round", x.deathRound(0), 0);
        a.due("paid by both", x.energyPaid(), 2 + 5);
    }
}
