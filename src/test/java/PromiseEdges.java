import java.util.function.IntUnaryOperator;

/** Edges of 'Promise 1' to 'Promise 28', a test for each sentence that names one. */
final class PromiseEdges {
    private static final int INVALID = -1;
    private static final int ILLEGAL = -2;
    private static final int FULL = -3;
    private static final int NONE = -9;
    private static final int LEAST = Integer.MIN_VALUE;
    private static final int GREATEST = Integer.MAX_VALUE;

    private interface SensorCall {
        int of(ClusterField x, int sensor);
    }

    private final Answers a;

    PromiseEdges(Answers answers) {
        a = answers;
    }

    void run() {
        a.each(
            this::newObject,
            this::firstSettings,
            this::firstRound,
            this::newSensor,
            this::firstCoordinateOfASensor,
            this::secondCoordinateOfASensor,
            this::batteryOfASensor,
            this::numberOfASensor,
            this::wrongSensorArguments,
            this::fullNetwork,
            this::newBase,
            this::firstCoordinateOfTheBase,
            this::secondCoordinateOfTheBase,
            this::previousBase,
            this::wrongBase,
            this::numberOfASetting,
            this::valueOfASetting,
            this::previousValue,
            this::wrongSettingOrValue,
            this::presentValue,
            this::generatorStates,
            this::roundOfTheGenerator,
            this::negativeGenerator,
            () -> sensorNumber(6, (x, sensor) -> x.charge(sensor, 1)),
            () -> noSuchSensor(6, (x, sensor) -> x.charge(sensor, 1)),
            this::chargedUnits,
            this::newBattery,
            this::wrongCharge,
            this::deadOrFullBattery,
            this::chargedWhileAlive,
            this::runRounds,
            this::performedRounds,
            this::wrongRounds,
            this::nobodyAlive,
            this::untilNobodyIsAlive,
            this::numberOfTheNextRound,
            this::numberAfterTheLastRound,
            this::countOfSensors,
            this::countOfTheLiving,
            this::countWithoutTheDead,
            () -> sensorNumber(11, ClusterField::isAlive),
            () -> noSuchSensor(11, ClusterField::isAlive),
            this::aliveOrNot,
            () -> sensorNumber(12, ClusterField::battery),
            () -> noSuchSensor(12, ClusterField::battery),
            this::batteryUnits,
            () -> sensorNumber(13, ClusterField::isEligible),
            () -> noSuchSensor(13, ClusterField::isEligible),
            this::eligibleOrNot,
            this::eligibleToDraw,
            () -> sensorNumber(14, ClusterField::headRounds),
            () -> noSuchSensor(14, ClusterField::headRounds),
            this::timesHead,
            this::timesHeadSoFar,
            () -> sensorNumber(15, ClusterField::deathRound),
            () -> noSuchSensor(15, ClusterField::deathRound),
            this::roundOfDeath,
            this::noRoundOfDeath,
            this::lateDeath,
            () -> sensorNumber(16, ClusterField::headOf),
            () -> noSuchSensor(16, ClusterField::headOf),
            this::headOfTheCluster,
            this::noCluster,
            this::addedSinceTheLastRound,
            this::headInTheLastRound,
            () -> sensorNumber(17, ClusterField::slotOf),
            () -> noSuchSensor(17, ClusterField::slotOf),
            this::slotInTheCluster,
            this::noSlot,
            this::slotInTheLastRound,
            this::countOfHeads,
            this::noRoundNoHeads,
            this::headsOfTheLastRound,
            this::lastReadings,
            this::noRoundNoReadings,
            this::readingsOfTheLastRound,
            this::allReadings,
            this::readingsOfAllRounds,
            this::paidEnergy,
            this::energyOfAllRounds,
            () -> sensorNumber(22, (x, sensor) -> x.sendCost(sensor, NONE)),
            () -> noSuchSensor(22, (x, sensor) -> x.sendCost(sensor, NONE)),
            this::costToSend,
            this::targetOfAMessage,
            this::wrongTarget,
            () -> sensorNumber(23, (x, sensor) -> x.forecastDeath(sensor, 1)),
            () -> noSuchSensor(23, (x, sensor) -> x.forecastDeath(sensor, 1)),
            this::forecastSensor,
            this::forecastDeathRounds,
            this::forecastRoundOfDeath,
            this::wrongForecastOfDeath,
            this::forecastOfTheDead,
            this::aliveAfterTheForecast,
            this::forecastDeliveredRounds,
            this::forecastDeliveredAnswers,
            this::wrongForecastRounds,
            this::statesLeft,
            this::nothingToUndo,
            this::depthOfUndo,
            this::numberOfSavedStates,
            this::saveCopies,
            this::saveSlots,
            this::savedSensors,
            this::wrongSaveSlot,
            this::restoreKeepsTheSlot,
            this::restoreDiscardsSavedStates,
            this::restoreSlots,
            this::restoredSensors,
            this::wrongRestoreSlot,
            this::emptySlot);
    }

    /** Too small, the least, the greatest and too large an argument, each for a call that would be right otherwise. */
    private void range(int least, int greatest, IntUnaryOperator call) {
        a.due("one below the least", call.applyAsInt(least - 1), INVALID);
        a.due("the least", call.applyAsInt(least) < 0 ? 0 : 1, 1);
        a.due("the greatest", call.applyAsInt(greatest) < 0 ? 0 : 1, 1);
        a.due("one above the greatest", call.applyAsInt(greatest + 1), INVALID);
        a.due("the least int", call.applyAsInt(LEAST), INVALID);
        a.due("the greatest int", call.applyAsInt(GREATEST), greatest == GREATEST ? 0 : INVALID);
    }

    // One sensor, and twelve: the least and the greatest number.
    private void sensorNumber(int promise, SensorCall call) {
        a.holds(promise, "`sensor`: number of a sensor");
        ClusterField x = Networks.atBase(100);
        a.due("one: 0", call.of(x, 0) != INVALID ? 1 : 0, 1);
        a.due("one: 1", call.of(x, 1), INVALID);
        ClusterField y = Networks.full(100);
        a.due("twelve: 0", call.of(y, 0) != INVALID ? 1 : 0, 1);
        a.due("twelve: 11", call.of(y, 11) != INVALID ? 1 : 0, 1);
        a.due("twelve: 12", call.of(y, 12), INVALID);
    }

    // No sensor, twelve, one taken back, none after a restore.
    private void noSuchSensor(int promise, SensorCall call) {
        a.holds(promise, "INVALID_ARGUMENT if there is no such sensor");
        a.due("no sensors: 0", call.of(new ClusterField(), 0), INVALID);
        ClusterField x = new ClusterField();
        x.save(0);
        for (int n = 0; n < 12; n++) {
            x.addSensor(50, 50, 100);
        }
        int[] wrong = {LEAST, NONE, -1, 12, GREATEST};
        for (int number : wrong) {
            a.due("twelve: " + number, call.of(x, number), INVALID);
        }
        for (int n = 0; n < 6 && x.sensorCount() == 12; n++) {
            x.undo();
        }
        a.due("taken back: 11", call.of(x, 11), INVALID);
        x.restore(0);
        a.due("restored to none: 0", call.of(x, 0), INVALID);
    }

    private void newObject() {
        a.holds(1, "Creates a network without sensors");
        ClusterField x = new ClusterField();
        a.due("sensors", x.sensorCount(), 0);
        a.due("alive", x.aliveCount(), 0);
        a.due("sensor 0", x.isAlive(0), INVALID);
        a.due("run", x.run(1), ILLEGAL);
        a.due("forecast", x.forecastDelivered(1), 0);
        a.due("undo", x.undo(), ILLEGAL);
        a.due("undoDepth", x.undoDepth(), 0);
        a.due("restore 0", x.restore(0), ILLEGAL);
        a.due("restore 1", x.restore(1), ILLEGAL);
        a.due("first sensor", x.addSensor(0, 0, 0), 0);
        a.due("another object has none", new ClusterField().sensorCount(), 0);
    }

    private void firstSettings() {
        a.holds(1, "with the first settings");
        int[] first = {4, 5, 100, 1, 2, 0};
        for (int s = 0; s < 6; s++) {
            a.due("setting " + s, new ClusterField().setSetting(s, first[s]), ILLEGAL);
        }
        a.due("base", new ClusterField().moveBase(0, 0), 10150);
    }

    private void firstRound() {
        a.holds(1, "before round 0");
        ClusterField x = new ClusterField();
        a.due("next round", x.roundNumber(), 0);
        a.due("heads", x.headCount(), 0);
        a.due("delivered", x.lastDelivered(), 0);
        a.due("delivered in all", x.deliveredTotal(), 0);
        a.due("paid", x.energyPaid(), 0);
        a.due("setGenerator", x.setGenerator(1), 0);
    }

    private void newSensor() {
        a.holds(2, "Adds a sensor, which is alive and eligible");
        ClusterField x = Networks.runOne(Networks.atBase(1000), "1");
        x.addSensor(0, 0, 0);
        a.due("alive in the middle of a cycle", x.isAlive(1), 1);
        a.due("eligible in the middle of a cycle", x.isEligible(1), 1);
        a.due("the other is not", x.isEligible(0), 0);
        // The place of a dead head that was taken back is a new sensor's.
        ClusterField y = new ClusterField();
        y.save(0);
        y.addSensor(50, 50, 2);
        Networks.runOne(y, "1");
        a.due("dead head", y.headRounds(0) - y.isAlive(0), 1);
        y.restore(0);
        y.addSensor(0, 0, 0);
        a.due("alive in a used place", y.isAlive(0), 1);
        a.due("no death", y.deathRound(0), NONE);
        a.due("never head", y.headRounds(0), 0);
        a.due("no cluster", y.headOf(0), NONE);
    }

    private void firstCoordinateOfASensor() {
        a.holds(2, "`x`: first coordinate, 0 to 99");
        range(0, 99, v -> new ClusterField().addSensor(v, 1, 1));
    }

    private void secondCoordinateOfASensor() {
        a.holds(2, "`y`: second coordinate, 0 to 99");
        range(0, 99, v -> new ClusterField().addSensor(1, v, 1));
    }

    private void batteryOfASensor() {
        a.holds(2, "`battery`: energy units, 0 to 100000");
        range(0, 100000, v -> new ClusterField().addSensor(1, 1, v));
        ClusterField x = Networks.atBase(0, 100000);
        a.due("the least is kept", x.battery(0), 0);
        a.due("the greatest is kept", x.battery(1), 100000);
    }

    private void numberOfASensor() {
        a.holds(2, "Returns the number of the sensor");
        ClusterField x = new ClusterField();
        for (int n = 0; n < 12; n++) {
            a.due("sensor " + n, x.addSensor(99, 0, 5), n);
        }
        x.undo();
        x.undo();
        a.due("after two were taken back", x.addSensor(1, 1, 1), 10);
    }

    private void wrongSensorArguments() {
        a.holds(2, "INVALID_ARGUMENT if an argument is out of range");
        int[][] wrong = {{-1, 0, 0}, {100, 0, 0}, {0, -1, 0}, {0, 100, 0}, {0, 0, -1}, {0, 0, 100001}, {-1, -1, -1}};
        ClusterField x = new ClusterField();
        for (int[] w : wrong) {
            a.due(w[0] + ", " + w[1] + ", " + w[2], x.addSensor(w[0], w[1], w[2]), INVALID);
        }
        a.due("no sensor", x.sensorCount(), 0);
    }

    private void fullNetwork() {
        a.holds(2, "CAPACITY_EXCEEDED if there are 12 sensors");
        ClusterField x = Networks.full(4);
        a.due("the 13th", x.addSensor(0, 0, 0), FULL);
        a.due("a wrong 13th", x.addSensor(0, 0, -1), INVALID);
        Networks.runOne(x, "000000000000");
        a.due("all dead", x.aliveCount(), 0);
        a.due("the dead take room", x.addSensor(0, 0, 0), FULL);
        x.undo();
        x.undo();
        x.undo();
        a.due("one taken back", x.sensorCount(), 11);
        a.due("the 12th", x.addSensor(0, 0, 0), 11);
    }

    private void newBase() {
        a.holds(3, "Moves the base station");
        ClusterField x = Networks.atBase(1000);
        x.moveBase(50, 40);
        a.due("cost", x.sendCost(0, NONE), 6);
        Networks.runOne(x, "0");
        a.due("paid", x.energyPaid(), 6);
    }

    private void firstCoordinateOfTheBase() {
        a.holds(3, "`x`: first coordinate, 0 to 199");
        range(0, 199, v -> new ClusterField().moveBase(v, 1));
    }

    private void secondCoordinateOfTheBase() {
        a.holds(3, "`y`: second coordinate, 0 to 199");
        range(0, 199, v -> new ClusterField().moveBase(1, v));
    }

    private void previousBase() {
        a.holds(3, "Returns the previous position, as 200 times the first coordinate plus the second one");
        ClusterField x = new ClusterField();
        a.due("the first", x.moveBase(0, 0), 10150);
        a.due("0, 0", x.moveBase(0, 199), 0);
        a.due("0, 199", x.moveBase(1, 0), 199);
        a.due("1, 0", x.moveBase(199, 0), 200);
        a.due("199, 0", x.moveBase(199, 199), 39800);
        a.due("199, 199", x.moveBase(199, 199), 39999);
        a.due("the same again", x.moveBase(0, 0), 39999);
    }

    private void wrongBase() {
        a.holds(3, "INVALID_ARGUMENT if an argument is out of range");
        int[][] wrong = {{-1, 0}, {200, 0}, {0, -1}, {0, 200}, {-1, 200}};
        ClusterField x = new ClusterField();
        for (int[] w : wrong) {
            a.due(w[0] + ", " + w[1], x.moveBase(w[0], w[1]), INVALID);
        }
        a.due("still the first", x.moveBase(0, 0), 10150);
    }

    private void numberOfASetting() {
        a.holds(4, "`setting`: 0 to 5");
        a.due("-1", new ClusterField().setSetting(-1, 1), INVALID);
        a.due("0", new ClusterField().setSetting(0, 2), 4);
        a.due("5", new ClusterField().setSetting(5, 1), 0);
        a.due("6", new ClusterField().setSetting(6, 1), INVALID);
        a.due("least int", new ClusterField().setSetting(LEAST, 1), INVALID);
        a.due("greatest int", new ClusterField().setSetting(GREATEST, 1), INVALID);
    }

    private void valueOfASetting() {
        a.holds(4, "`value`: a value in the range of the setting");
        int[] least = {2, 1, 1, 0, 0, 0};
        int[] greatest = {8, 50, 1000, 20, 50, 1};
        for (int s = 0; s < 5; s++) {
            int setting = s;
            range(least[s], greatest[s], v -> new ClusterField().setSetting(setting, v));
        }
        // The least value of the routing is the first one too.
        range(0, 1, v -> {
            ClusterField x = new ClusterField();
            if (v == 0) {
                x.setSetting(5, 1);
            }
            return x.setSetting(5, v);
        });
    }

    private void previousValue() {
        a.holds(4, "Returns the previous value");
        int[] first = {4, 5, 100, 1, 2, 0};
        int[] least = {2, 1, 1, 0, 0, 0};
        int[] greatest = {8, 50, 1000, 20, 50, 1};
        ClusterField x = new ClusterField();
        for (int s = 0; s < 6; s++) {
            a.due("the first of " + s, x.setSetting(s, greatest[s]), first[s]);
            a.due("the greatest of " + s, x.setSetting(s, least[s]), greatest[s]);
        }
        for (int s = 0; s < 6; s++) {
            a.due("the least of " + s, x.setSetting(s, greatest[s]), least[s]);
        }
    }

    private void wrongSettingOrValue() {
        a.holds(4, "INVALID_ARGUMENT if setting or value is out of range");
        ClusterField x = new ClusterField();
        a.due("both", x.setSetting(6, -1), INVALID);
        a.due("setting, with the first value of another", x.setSetting(-1, 4), INVALID);
        a.due("a value of another setting", x.setSetting(0, 1), INVALID);
        a.due("a value of another setting, too large", x.setSetting(3, 50), INVALID);
        a.due("nothing saved", x.undoDepth(), 0);
    }

    private void presentValue() {
        a.holds(4, "ILLEGAL_STATE if it is the present value");
        ClusterField x = new ClusterField();
        a.due("the first", x.setSetting(2, 100), ILLEGAL);
        x.setSetting(2, 99);
        a.due("a new one", x.setSetting(2, 99), ILLEGAL);
        a.due("the first is not present now", x.setSetting(2, 100), 99);
        x.undo();
        a.due("after undo", x.setSetting(2, 99), ILLEGAL);
        x.save(0);
        x.setSetting(2, 98);
        x.restore(0);
        a.due("after restore", x.setSetting(2, 99), ILLEGAL);
    }

    private void generatorStates() {
        a.holds(5, "`state`: 0 to 2147483647");
        a.due("-1", new ClusterField().setGenerator(-1), INVALID);
        a.due("least int", new ClusterField().setGenerator(LEAST), INVALID);
        a.due("0", new ClusterField().setGenerator(0), 0);
        a.due("greatest", new ClusterField().setGenerator(GREATEST), 0);
        // 0 draws 0, which elects, and the greatest state draws 929, which does not.
        ClusterField x = Networks.atBase(1000);
        x.setGenerator(0);
        x.run(1);
        a.due("0 elects", x.headCount(), 1);
        x.undo();
        x.setGenerator(GREATEST);
        x.run(1);
        a.due("the greatest does not", x.headCount(), 0);
    }

    private void roundOfTheGenerator() {
        a.holds(5, "Returns the number of the next round");
        ClusterField x = Networks.atBase(10000);
        a.due("no round", x.setGenerator(5), 0);
        x.run(1);
        a.due("one", x.setGenerator(5), 1);
        a.due("the same state again", x.setGenerator(5), 1);
        x.run(50);
        a.due("51", x.setGenerator(5), 51);
        x.undo();
        x.undo();
        a.due("after undo", x.setGenerator(5), 1);
    }

    private void negativeGenerator() {
        a.holds(5, "INVALID_ARGUMENT if state is negative");
        ClusterField x = Networks.elect(Networks.atBase(1000), "1");
        a.due("-1", x.setGenerator(-1), INVALID);
        a.due("least int", x.setGenerator(LEAST), INVALID);
        x.run(1);
        a.due("the state before is kept", x.headCount(), 1);
    }

    private void chargedUnits() {
        a.holds(6, "`units`: 1 to 100000");
        range(1, 100000, v -> Networks.atBase(7).charge(0, v));
    }

    private void newBattery() {
        a.holds(6, "Returns the new battery");
        ClusterField x = Networks.atBase(0, 9);
        a.due("an empty one, 1", x.charge(0, 1), 1);
        a.due("100000", x.charge(0, 100000), 100001);
        a.due("kept", x.battery(0), 100001);
        a.due("the other one's", x.battery(1), 9);
        ClusterField y = Networks.runOne(Networks.atBase(4, 1000), "00");
        a.due("in the middle of a cycle", y.charge(1, 5), 1000);
    }

    private void wrongCharge() {
        a.holds(6, "INVALID_ARGUMENT if there is no such sensor, or if units is out of range");
        ClusterField x = Networks.atBase(7);
        a.due("sensor -1", x.charge(-1, 1), INVALID);
        a.due("sensor 1", x.charge(1, 1), INVALID);
        a.due("units 0", x.charge(0, 0), INVALID);
        a.due("units -1", x.charge(0, -1), INVALID);
        a.due("units 100001", x.charge(0, 100001), INVALID);
        a.due("both", x.charge(1, 0), INVALID);
        a.due("battery", x.battery(0), 7);
    }

    private void deadOrFullBattery() {
        a.holds(6, "ILLEGAL_STATE if the sensor is dead, or if its battery would be greater than 1000000");
        ClusterField x = Networks.runOne(Networks.atBase(4, 1000), "00");
        a.due("dead", x.charge(0, 1), ILLEGAL);
        a.due("dead, greatest units", x.charge(0, 100000), ILLEGAL);
        a.due("dead, units 0", x.charge(0, 0), INVALID);
        ClusterField y = Networks.atBase(100000);
        for (int n = 2; n <= 9; n++) {
            y.charge(0, 100000);
        }
        a.due("999999", y.charge(0, 99999), 999999);
        a.due("one too many", y.charge(0, 2), ILLEGAL);
        a.due("far too many", y.charge(0, 100000), ILLEGAL);
        a.due("exactly 1000000", y.charge(0, 1), 1000000);
        a.due("one above", y.charge(0, 1), ILLEGAL);
        a.due("battery", y.battery(0), 1000000);
    }

    private void chargedWhileAlive() {
        a.holds(6, "Adds energy to the battery of a sensor that is alive");
        ClusterField x = Networks.runOne(Networks.atBase(5, 4), "00");
        a.due("alive with nothing", x.charge(0, 4), 4);
        a.due("dead with 4", x.charge(1, 1), ILLEGAL);
        a.due("one more", x.charge(0, 1), 5);
        Networks.elect(x, 3, "0").run(1);
        a.due("lives by it", x.isAlive(0), 1);
    }

    private void runRounds() {
        a.holds(7, "`rounds`: 1 to 50");
        range(1, 50, v -> Networks.atBase(100000).run(v));
    }

    private void performedRounds() {
        a.holds(7, "Returns the number of rounds performed");
        a.due("1 of 1", Networks.atBase(100000).run(1), 1);
        a.due("50 of 50", Networks.atBase(100000).run(50), 50);
        a.due("all die in the first of 1", Networks.atBase(0).run(1), 1);
        a.due("all die in the first of 50", Networks.atBase(0).run(50), 1);
        ClusterField x = Networks.atBase(0, 100000);
        a.due("one lives on", x.run(50), 50);
    }

    private void wrongRounds() {
        a.holds(7, "INVALID_ARGUMENT if rounds is out of range");
        ClusterField x = Networks.atBase(1000);
        a.due("0", x.run(0), INVALID);
        a.due("51", x.run(51), INVALID);
        a.due("-1", x.run(-1), INVALID);
        a.due("no round", x.roundNumber(), 0);
    }

    private void nobodyAlive() {
        a.holds(7, "ILLEGAL_STATE if no sensor is alive");
        a.due("no sensors", new ClusterField().run(50), ILLEGAL);
        ClusterField x = Networks.atBase(0);
        x.run(50);
        a.due("all dead", x.run(50), ILLEGAL);
        a.due("wrong rounds first", x.run(51), INVALID);
        x.addSensor(50, 50, 0);
        a.due("a new one", x.run(50), 1);
    }

    // A lone sensor that has nothing but 1 unit a round to pay.
    private static ClusterField cheap(int battery) {
        ClusterField x = Networks.atBase(battery);
        x.setSetting(1, 1);
        x.setSetting(3, 0);
        x.setSetting(4, 0);
        return x;
    }

    private void untilNobodyIsAlive() {
        a.holds(7, "Performs rounds until the given number has been performed or no sensor is alive");
        // With nothing but sending to pay, 1 unit a round: the last round is that of the death.
        int[][] batteryAndPerformed = {{48, 49}, {49, 50}, {50, 50}, {51, 50}};
        for (int[] pair : batteryAndPerformed) {
            ClusterField x = cheap(pair[0]);
            a.due("performed with " + pair[0], x.run(50), pair[1]);
            a.due("next round with " + pair[0], x.roundNumber(), pair[1]);
            a.due("alive with " + pair[0], x.isAlive(0), pair[0] < 50 ? 0 : 1);
        }
    }

    private void numberOfTheNextRound() {
        a.holds(8, "Returns the number of rounds performed so far");
        ClusterField x = Networks.atBase(100000);
        a.due("none", x.roundNumber(), 0);
        x.run(1);
        a.due("one", x.roundNumber(), 1);
        x.run(50);
        a.due("51", x.roundNumber(), 51);
        x.forecastDelivered(300);
        a.due("forecasts left out", x.roundNumber(), 51);
        x.undo();
        a.due("after undo", x.roundNumber(), 1);
    }

    private void numberAfterTheLastRound() {
        a.holds(8, "Returns the number of the next round");
        ClusterField x = Networks.atBase(0);
        x.run(50);
        a.due("all died in round 0", x.roundNumber(), 1);
        a.due("refused", x.run(50), ILLEGAL);
        a.due("still 1", x.roundNumber(), 1);
        a.due("as setGenerator answers", x.setGenerator(1), 1);
    }

    private void countOfSensors() {
        a.holds(9, "Returns the number of sensors, dead ones included");
        a.due("none", new ClusterField().sensorCount(), 0);
        ClusterField x = Networks.full(0);
        a.due("twelve", x.sensorCount(), 12);
        x.run(1);
        a.due("all dead", x.aliveCount(), 0);
        a.due("twelve dead ones", x.sensorCount(), 12);
    }

    private void countOfTheLiving() {
        a.holds(10, "Returns the number of these sensors");
        a.due("no sensors", new ClusterField().aliveCount(), 0);
        a.due("twelve", Networks.full(0).aliveCount(), 12);
        ClusterField x = Networks.runOne(Networks.atBase(4, 5, 0), "000");
        a.due("one of three", x.aliveCount(), 1);
        x.run(50);
        a.due("none of three", x.aliveCount(), 0);
    }

    private void countWithoutTheDead() {
        a.holds(10, "Counts the sensors that are alive");
        ClusterField x = Networks.full(4);
        x.charge(0, 1);
        x.charge(11, 1);
        Networks.runOne(x, "000000000000");
        a.due("the first and the last", x.aliveCount(), 2);
        a.due("the first", x.isAlive(0), 1);
        a.due("the last", x.isAlive(11), 1);
    }

    private void aliveOrNot() {
        a.holds(11, "Returns 1 if it is, otherwise 0");
        ClusterField x = Networks.runOne(Networks.atBase(5, 4), "00");
        a.due("paid its last unit", x.isAlive(0), 1);
        a.due("dead", x.isAlive(1), 0);
    }

    private void batteryUnits() {
        a.holds(12, "Returns the energy units");
        a.due("none", Networks.atBase(0).battery(0), 0);
        a.due("the most of a new one", Networks.atBase(100000).battery(0), 100000);
    }

    private void eligibleOrNot() {
        a.holds(13, "Returns 1 if it is alive, and it is eligible or the next round has phase 0; otherwise 0");
        ClusterField x = Networks.atBase(1000, 10000, 2);
        a.due("before round 0", x.isEligible(0), 1);
        Networks.runOne(x, "101");
        a.due("head, phase 1", x.isEligible(0), 0);
        a.due("no head, phase 1", x.isEligible(1), 1);
        a.due("dead head, phase 1", x.isEligible(2), 0);
        x.run(3);
        a.due("head, phase 0", x.isEligible(0), 1);
        a.due("dead, phase 0", x.isEligible(2), 0);
        a.due("dead in phase 0, still dead", x.isAlive(2), 0);
    }

    private void eligibleToDraw() {
        a.holds(13, "Tells whether a sensor could make a draw in the next round");
        // A draw of 0 elects in every phase, so that a head tells of a draw.
        ClusterField x = Networks.atBase(10000);
        int[] draws = {999, 0, 0, 0, 0, 0, 0, 0, 0};
        for (int round = 0; round < draws.length; round++) {
            int could = x.isEligible(0);
            a.due("before round " + round, could, round % 4 == 0 || round == 1 ? 1 : 0);
            x.setGenerator(Draws.drawing(draws[round]));
            x.run(1);
            a.due("drew in round " + round, x.headCount(), round == 0 ? 0 : could);
        }
    }

    private void timesHead() {
        a.holds(14, "Returns the number of rounds");
        ClusterField x = Networks.runOne(Networks.atBase(2, 1, 1000), "111");
        a.due("head that died later in the round", x.headRounds(0), 1);
        a.due("died announcing itself", x.headRounds(1), 0);
        a.due("one", x.headRounds(2), 1);
        x.run(7);
        a.due("two in two cycles", x.headRounds(2), 2);
        a.due("none after death", x.headRounds(0), 1);
    }

    private void timesHeadSoFar() {
        a.holds(14, "Returns in how many rounds a sensor was a head");
        ClusterField x = Networks.atBase(100000);
        x.forecastDelivered(300);
        a.due("forecasts left out", x.headRounds(0), 0);
        x.run(48);
        a.due("once in each of twelve cycles", x.headRounds(0), 12);
        x.undo();
        a.due("undone", x.headRounds(0), 0);
    }

    private void roundOfDeath() {
        a.holds(15, "Returns the number of the round");
        ClusterField x = Networks.runOne(Networks.atBase(4, 5, 10000), "000");
        a.due("the first round", x.deathRound(0), 0);
        x.run(1);
        a.due("the second round", x.deathRound(1), 1);
        x.run(9);
        a.due("the first round, later", x.deathRound(0), 0);
        a.due("the second round, later", x.deathRound(1), 1);
    }

    private void noRoundOfDeath() {
        a.holds(15, "NONE if it is alive");
        ClusterField x = Networks.atBase(0, 5, 10000);
        a.due("before any round, with nothing", x.deathRound(0), NONE);
        Networks.runOne(x, "000");
        a.due("alive with nothing", x.deathRound(1), NONE);
        x.run(50);
        a.due("alive", x.deathRound(2), NONE);
        a.due("dead", x.deathRound(0), 0);
    }

    private void lateDeath() {
        a.holds(15, "Returns the round in which a sensor died");
        ClusterField x = cheap(50);
        x.run(50);
        a.due("not by round 49", x.deathRound(0), NONE);
        a.due("the 51st round is the last", x.run(50), 1);
        a.due("round 50", x.deathRound(0), 50);
        x.undo();
        a.due("undone", x.deathRound(0), NONE);
    }

    private void headOfTheCluster() {
        a.holds(16, "Returns the number of the head, which can be the sensor itself");
        ClusterField x = Networks.runOne(Networks.atBase(1000, 1000, 1), "010");
        a.due("a member", x.headOf(0), 1);
        a.due("the head itself", x.headOf(1), 1);
        a.due("a member that died sending", x.headOf(2), 1);
        ClusterField y = Networks.runOne(Networks.atBase(1000), "1");
        a.due("the least number", y.headOf(0), 0);
        ClusterField z = Networks.runOne(Networks.full(1000), "000000000001");
        a.due("the greatest number, itself", z.headOf(11), 11);
        a.due("the greatest number", z.headOf(0), 11);
    }

    private void noCluster() {
        a.holds(16, "NONE if it belonged to no cluster");
        ClusterField x = Networks.runOne(Networks.atBase(1000, 1000, 1), "011");
        a.due("died announcing itself", x.headOf(2), NONE);
        Networks.elect(x, 3, "0").run(1);
        a.due("a round without heads", x.headOf(0), NONE);
        x.undo();
        a.due("after undo", x.headOf(0), 1);
    }

    private void addedSinceTheLastRound() {
        a.holds(16, "or if no round has been performed since it was added");
        ClusterField x = Networks.elect(Networks.atBase(1000, 1000), "10");
        a.due("no round yet", x.headOf(1), NONE);
        x.forecastDelivered(9);
        a.due("a forecast is no round", x.headOf(1), NONE);
        x.run(1);
        x.addSensor(50, 50, 1000);
        a.due("added since", x.headOf(2), NONE);
        a.due("the others belonged to one", x.headOf(1), 0);
        Networks.elect(x, 3, "10").run(1);
        a.due("a round later", x.headOf(2), 1);
    }

    private void headInTheLastRound() {
        a.holds(16, "Returns the head of the cluster to which a sensor belonged in the last round that was performed");
        ClusterField x = Networks.runOne(Networks.atBase(1000, 4, 2), "101");
        a.due("of the head", x.headOf(0), 0);
        a.due("of the member that died in it", x.headOf(1), 0);
        a.due("of the head that died in it", x.headOf(2), 2);
        x.run(51);
        a.due("after a refused run", x.headOf(1), 0);
        x.run(1);
        for (int n = 0; n < 3; n++) {
            a.due("in a round without draws, of " + n, x.headOf(n), NONE);
        }
        x.run(2);
        x.setGenerator(Draws.drawing(0));
        x.run(1);
        a.due("head again", x.headOf(0), 0);
        a.due("the dead member", x.headOf(1), NONE);
        a.due("the dead head", x.headOf(2), NONE);
    }

    private void slotInTheCluster() {
        a.holds(17, "Returns the slot");
        ClusterField x = Networks.runOne(Networks.atBase(1000, 1000, 1000, 4), "0100");
        a.due("the first slot", x.slotOf(0), 0);
        a.due("the second", x.slotOf(2), 1);
        a.due("of one that died sending", x.slotOf(3), 2);
        ClusterField y = Networks.runOne(Networks.full(1000), "100000000000");
        a.due("the last slot of eleven", y.slotOf(11), 10);
    }

    private void noSlot() {
        a.holds(17, "NONE if the sensor had no slot");
        ClusterField x = Networks.elect(Networks.atBase(1000, 1000, 1), "011");
        a.due("no round yet", x.slotOf(0), NONE);
        x.run(1);
        a.due("the head", x.slotOf(1), NONE);
        a.due("died announcing itself", x.slotOf(2), NONE);
        x.addSensor(50, 50, 1);
        a.due("added since", x.slotOf(3), NONE);
        a.due("the member has one", x.slotOf(0), 0);
        Networks.elect(x, 3, "00").run(1);
        a.due("a round without heads", x.slotOf(0), NONE);
    }

    private void slotInTheLastRound() {
        a.holds(17, "Returns the slot of a sensor in the last round that was performed");
        ClusterField x = Networks.runOne(Networks.atBase(1000, 4, 1000), "100");
        a.due("of the head", x.slotOf(0), NONE);
        a.due("of the member that died in it", x.slotOf(1), 0);
        a.due("of the next", x.slotOf(2), 1);
        x.run(51);
        a.due("after a refused run", x.slotOf(2), 1);
        Networks.elect(x, 3, "1").run(1);
        a.due("of the head before", x.slotOf(0), 0);
        a.due("of the dead", x.slotOf(1), NONE);
        a.due("of the head", x.slotOf(2), NONE);
    }

    private void countOfHeads() {
        a.holds(18, "Returns the number of heads");
        ClusterField x = Networks.runOne(Networks.atBase(1000, 2, 1), "111");
        a.due("the dead head counts, who died announcing does not", x.headCount(), 2);
        x.run(1);
        a.due("a round without heads", x.headCount(), 0);
        x.undo();
        a.due("after undo", x.headCount(), 2);
    }

    private void noRoundNoHeads() {
        a.holds(18, "0 if no round has been performed");
        a.due("a new object", new ClusterField().headCount(), 0);
        ClusterField x = Networks.elect(Networks.atBase(1000), "1");
        a.due("sensors, but no round", x.headCount(), 0);
        x.run(1);
        x.undo();
        a.due("the only round was undone", x.headCount(), 0);
    }

    private void headsOfTheLastRound() {
        a.holds(18, "Counts the heads of the last round that was performed");
        ClusterField x = Networks.full(1000);
        x.setSetting(0, 2);
        Networks.elect(x, 2, "111111111111").run(1);
        a.due("all twelve", x.headCount(), 12);
        x.run(51);
        a.due("after a refused run", x.headCount(), 12);
        x.forecastDelivered(300);
        a.due("after a forecast", x.headCount(), 12);
        x.run(1);
        a.due("nobody draws in the next round", x.headCount(), 0);
    }

    private void lastReadings() {
        a.holds(19, "Returns the number of readings");
        ClusterField x = Networks.runOne(Networks.atBase(5, 10), "00");
        a.due("the first", x.lastDelivered(), 2);
        Networks.elect(x, 3, "00").run(1);
        a.due("the second", x.lastDelivered(), 1);
        x.run(1);
        a.due("all die", x.lastDelivered(), 0);
        x.undo();
        a.due("after undo", x.lastDelivered(), 1);
    }

    private void noRoundNoReadings() {
        a.holds(19, "0 if no round has been performed");
        a.due("a new object", new ClusterField().lastDelivered(), 0);
        ClusterField x = Networks.atBase(1000);
        a.due("sensors, but no round", x.lastDelivered(), 0);
        x.run(1);
        a.due("a reading", x.lastDelivered(), 1);
        x.undo();
        a.due("the only round was undone", x.lastDelivered(), 0);
    }

    private void readingsOfTheLastRound() {
        a.holds(19, "Counts the readings that were delivered in the last round that was performed");
        ClusterField x = Networks.full(1000);
        x.run(50);
        a.due("of 50 rounds but the last", x.lastDelivered(), 12);
        x.run(51);
        a.due("after a refused run", x.lastDelivered(), 12);
        ClusterField y = Networks.atBase(1000, 4);
        y.forecastDelivered(300);
        a.due("after a forecast", y.lastDelivered(), 0);
        Networks.runOne(y, "10");
        a.due("that of the head", y.lastDelivered(), 1);
    }

    private void allReadings() {
        a.holds(20, "Returns the number of readings");
        ClusterField x = Networks.full(100000);
        a.due("no round", x.deliveredTotal(), 0);
        x.run(50);
        a.due("twelve in each of 50", x.deliveredTotal(), 600);
        x.run(50);
        a.due("twelve in each of 100", x.deliveredTotal(), 1200);
        x.forecastDelivered(300);
        a.due("forecasts left out", x.deliveredTotal(), 1200);
        x.undo();
        a.due("after undo", x.deliveredTotal(), 600);
    }

    private void readingsOfAllRounds() {
        a.holds(20, "Counts the readings that were delivered in all rounds");
        ClusterField x = Networks.runOne(Networks.atBase(13, 4), "10");
        a.due("a reading with a head", x.deliveredTotal(), 1);
        x.run(1);
        a.due("a reading without heads", x.deliveredTotal(), 2);
        a.due("the last round has none", x.run(50), 1);
        a.due("lost readings left out", x.deliveredTotal(), 2);
        a.due("of the last round", x.lastDelivered(), 0);
    }

    private void paidEnergy() {
        a.holds(21, "Returns the number of units");
        ClusterField x = Networks.atBase(0, 4);
        a.due("no round", x.energyPaid(), 0);
        Networks.runOne(x, "00");
        a.due("nobody could pay", x.energyPaid(), 0);
        ClusterField y = Networks.full(100000);
        y.moveBase(199, 199);
        y.setSetting(1, 50);
        y.setSetting(2, 1);
        for (int n = 0; n < 12; n++) {
            for (int times = 2; times <= 10; times++) {
                y.charge(n, 100000);
            }
        }
        y.run(50);
        int left = 0;
        for (int n = 0; n < 12; n++) {
            left += y.battery(n);
        }
        a.due("all that the greatest batteries have lost", y.energyPaid(), 12000000 - left);
        a.due("which is much", y.energyPaid() > 5000000 ? 1 : 0, 1);
    }

    private void energyOfAllRounds() {
        a.holds(21, "Returns the energy that all sensors have paid in all rounds");
        ClusterField x = Networks.runOne(Networks.atBase(12, 5, 4), "100");
        a.due("of the head and its first member", x.energyPaid(), (2 + 6 + 1) + 5);
        a.due("the head died of sending", x.isAlive(0), 0);
        x.charge(1, 7);
        a.due("charged units left out", x.energyPaid(), 9 + 5);
        x.forecastDelivered(300);
        a.due("forecasts left out", x.energyPaid(), 9 + 5);
    }

    private void costToSend() {
        a.holds(22, "Returns the cost");
        ClusterField x = Networks.atBase(0, 0);
        a.due("no distance", x.sendCost(0, 1), 5);
        x.setSetting(1, 50);
        x.setSetting(2, 1);
        x.moveBase(199, 199);
        a.due("to the far base", x.sendCost(0, NONE), 50 + 2 * 149 * 149);
        x.setSetting(2, 1000);
        x.setSetting(1, 1);
        a.due("with the greatest divisor", x.sendCost(0, NONE), 1 + 44);
        x.run(1);
        a.due("dead", x.isAlive(0), 0);
        a.due("from one dead sensor to another", x.sendCost(1, 0), 1);
    }

    private void targetOfAMessage() {
        a.holds(22, "`target`: number of another sensor, or NONE for the base station");
        ClusterField x = Networks.full(0);
        a.due("the least", x.sendCost(1, 0), 5);
        a.due("the greatest", x.sendCost(0, 11), 5);
        a.due("one above", x.sendCost(0, 12), INVALID);
        a.due("one below", x.sendCost(0, -1), INVALID);
        a.due("NONE", x.sendCost(0, NONE), 5);
        a.due("one below NONE", x.sendCost(0, NONE - 1), INVALID);
        a.due("one above NONE", x.sendCost(0, NONE + 1), INVALID);
        a.due("the least int", x.sendCost(0, LEAST), INVALID);
        a.due("the greatest int", x.sendCost(0, GREATEST), INVALID);
        x.undo();
        a.due("a sensor that was taken back", x.sendCost(0, 11), INVALID);
    }

    private void wrongTarget() {
        a.holds(22, "INVALID_ARGUMENT if there is no such sensor, or if target is the same sensor");
        ClusterField x = Networks.atBase(0, 0);
        a.due("the first to itself", x.sendCost(0, 0), INVALID);
        a.due("the last to itself", x.sendCost(1, 1), INVALID);
        a.due("to no sensor", x.sendCost(1, 2), INVALID);
        a.due("from no sensor", x.sendCost(2, 1), INVALID);
        a.due("from no sensor to the base", x.sendCost(2, NONE), INVALID);
        a.due("from no sensor to itself", x.sendCost(2, 2), INVALID);
    }

    private void forecastSensor() {
        a.holds(23, "`sensor`: number of a sensor that is alive");
        ClusterField x = Networks.runOne(Networks.atBase(5, 4), "00");
        a.due("alive with nothing", x.forecastDeath(0, 1), 1);
        a.due("dead", x.forecastDeath(1, 1), ILLEGAL);
    }

    private void forecastDeathRounds() {
        a.holds(23, "`rounds`: the greatest number of rounds of the forecast, 1 to 300");
        range(1, 300, v -> Networks.atBase(0).forecastDeath(0, v));
    }

    private void forecastRoundOfDeath() {
        a.holds(23, "Returns the number of the round");
        ClusterField x = Networks.elect(Networks.atBase(4, 5, 100000), "000");
        a.due("the first round", x.forecastDeath(0, 1), 0);
        a.due("the second round", x.forecastDeath(1, 2), 1);
        x.run(1);
        a.due("the number counts from round 0", x.forecastDeath(1, 1), 1);
        ClusterField y = cheap(299);
        a.due("the last round of the greatest forecast", y.forecastDeath(0, 300), 299);
    }

    private void wrongForecastOfDeath() {
        a.holds(23, "INVALID_ARGUMENT if there is no such sensor, or if rounds is out of range");
        ClusterField x = Networks.runOne(Networks.atBase(4, 1000), "00");
        int[] wrong = {LEAST, -1, 0, 301, GREATEST};
        for (int rounds : wrong) {
            a.due("alive, " + rounds, x.forecastDeath(1, rounds), INVALID);
            a.due("dead, " + rounds, x.forecastDeath(0, rounds), INVALID);
            a.due("no such sensor, " + rounds, x.forecastDeath(2, rounds), INVALID);
        }
        a.due("no such sensor", x.forecastDeath(2, 300), INVALID);
    }

    private void forecastOfTheDead() {
        a.holds(23, "ILLEGAL_STATE if the sensor is dead");
        ClusterField x = Networks.runOne(Networks.atBase(4, 1000), "00");
        a.due("dead, the least rounds", x.forecastDeath(0, 1), ILLEGAL);
        a.due("dead, the most rounds", x.forecastDeath(0, 300), ILLEGAL);
        a.due("alive", x.forecastDeath(1, 1), NONE);
        x.undo();
        a.due("alive again by undo", x.forecastDeath(0, 1), 0);
    }

    private void aliveAfterTheForecast() {
        a.holds(23, "NONE if the sensor is alive at the end of the forecast");
        a.due("299 rounds paid, of 299", cheap(299).forecastDeath(0, 299), NONE);
        a.due("299 rounds paid, of 300", cheap(299).forecastDeath(0, 300), 299);
        a.due("300 rounds paid, of 300", cheap(300).forecastDeath(0, 300), NONE);
        a.due("1 round paid, of 1", cheap(1).forecastDeath(0, 1), NONE);
        a.due("none paid, of 1", cheap(0).forecastDeath(0, 1), 0);
    }

    private void forecastDeliveredRounds() {
        a.holds(24, "`rounds`: the greatest number of rounds of the forecast, 1 to 300");
        range(1, 300, v -> Networks.atBase(1000).forecastDelivered(v));
        a.due("without sensors, 1", new ClusterField().forecastDelivered(1), 0);
        a.due("without sensors, 300", new ClusterField().forecastDelivered(300), 0);
    }

    private void forecastDeliveredAnswers() {
        a.holds(24, "Returns the number of readings delivered in the rounds of the forecast");
        ClusterField x = Networks.full(100000);
        a.due("the greatest number", x.forecastDelivered(300), 3600);
        a.due("the least number of rounds", x.forecastDelivered(1), 12);
        x.run(50);
        a.due("those before left out", x.forecastDelivered(1), 12);
        ClusterField y = Networks.atBase(0);
        a.due("none", y.forecastDelivered(300), 0);
        y.run(1);
        a.due("all dead", y.forecastDelivered(300), 0);
    }

    private void wrongForecastRounds() {
        a.holds(24, "INVALID_ARGUMENT if rounds is out of range");
        ClusterField x = Networks.atBase(0);
        x.run(1);
        int[] wrong = {LEAST, -1, 0, 301, GREATEST};
        for (int rounds : wrong) {
            a.due("all dead, " + rounds, x.forecastDelivered(rounds), INVALID);
            a.due("no sensors, " + rounds, new ClusterField().forecastDelivered(rounds), INVALID);
            a.due("alive, " + rounds, Networks.atBase(1000).forecastDelivered(rounds), INVALID);
        }
    }

    private void statesLeft() {
        a.holds(25, "Returns the number of states that are still saved");
        ClusterField x = Networks.full(0);
        for (int left = 5; left >= 0; left--) {
            a.due("undo", x.undo(), left);
            a.due("sensors", x.sensorCount(), 6 + left);
        }
    }

    private void nothingToUndo() {
        a.holds(25, "ILLEGAL_STATE if none was saved");
        ClusterField x = new ClusterField();
        a.due("a new object", x.undo(), ILLEGAL);
        x.addSensor(1, 1, 1);
        x.undo();
        a.due("after the only one", x.undo(), ILLEGAL);
        x.addSensor(1, 1, 1);
        x.save(0);
        x.restore(0);
        a.due("after restore", x.undo(), ILLEGAL);
        a.due("the restored state", x.sensorCount(), 1);
        ClusterField y = Networks.full(0);
        for (int n = 0; n < 6; n++) {
            y.undo();
        }
        a.due("after six", y.undo(), ILLEGAL);
        a.due("six sensors are left", y.sensorCount(), 6);
    }

    private void depthOfUndo() {
        a.holds(26, "Returns how many times undo() can succeed in succession");
        a.due("none", new ClusterField().undoDepth(), 0);
        for (int saved = 0; saved <= 8; saved++) {
            ClusterField x = new ClusterField();
            for (int n = 0; n < saved; n++) {
                x.setGenerator(n);
            }
            int depth = x.undoDepth();
            int succeeded = 0;
            while (succeeded < 99 && x.undo() != ILLEGAL) {
                succeeded++;
            }
            a.due(saved + " saved, depth", depth, Math.min(saved, 6));
            a.due(saved + " saved, succeeded", succeeded, depth);
            a.due(saved + " saved, then depth", x.undoDepth(), 0);
        }
    }

    private void numberOfSavedStates() {
        a.holds(26, "Returns the number of saved states");
        a.due("a new object", new ClusterField().undoDepth(), 0);
        ClusterField x = Networks.full(0);
        a.due("more than undo keeps", x.undoDepth(), 6);
        a.due("as undo answers", x.undo(), 5);
        a.due("after undo", x.undoDepth(), 5);
    }

    private void saveSlots() {
        a.holds(27, "`slot`: 0 or 1");
        range(0, 1, v -> new ClusterField().save(v));
    }

    private void savedSensors() {
        a.holds(27, "Returns the number of sensors");
        a.due("none", new ClusterField().save(0), 0);
        ClusterField x = Networks.full(0);
        x.run(1);
        a.due("twelve dead ones", x.save(1), 12);
    }

    private void wrongSaveSlot() {
        a.holds(27, "INVALID_ARGUMENT if slot is neither 0 nor 1");
        ClusterField x = Networks.atBase(1);
        int[] wrong = {LEAST, NONE, -1, 2, GREATEST};
        for (int slot : wrong) {
            a.due("slot " + slot, x.save(slot), INVALID);
        }
        a.due("slot 0 is empty", x.restore(0), ILLEGAL);
        a.due("slot 1 is empty", x.restore(1), ILLEGAL);
    }

    private void saveCopies() {
        a.holds(27, "Copies the state into a snapshot slot");
        ClusterField x = Networks.atBase(1);
        x.save(0);
        x.charge(0, 1);
        x.save(0);
        x.charge(0, 1);
        x.addSensor(0, 0, 0);
        a.due("sensors restored", x.restore(0), 1);
        a.due("the later one of two", x.battery(0), 2);
    }

    private void restoreKeepsTheSlot() {
        a.holds(28, "Replaces the state by a copy of the one in a snapshot slot, which is kept");
        ClusterField x = Networks.runOne(Networks.atBase(4, 1000), "01");
        int[] saved = Answers.told(x);
        saved[6] = 0;  // the number of saved states
        x.save(1);
        for (int times = 0; times < 3; times++) {
            x.charge(1, 100);
            x.setSetting(0, 8);
            x.run(5);
            x.addSensor(1, 1, 1);
            a.due("restored", x.restore(1), 2);
            a.same("told", Answers.told(x), saved);
        }
        a.due("cycle", x.setSetting(0, 4), ILLEGAL);
    }

    private void restoreDiscardsSavedStates() {
        a.holds(28, "All states saved for undo() are discarded");
        ClusterField x = Networks.full(0);
        x.save(0);
        a.due("six", x.undoDepth(), 6);
        a.due("refused", x.restore(1), ILLEGAL);
        a.due("still six", x.undoDepth(), 6);
        x.restore(0);
        a.due("none", x.undoDepth(), 0);
        a.due("undo", x.undo(), ILLEGAL);
        a.due("sensors", x.sensorCount(), 12);
        x.charge(0, 3);
        a.due("one anew", x.undo(), 0);
        a.due("the restored state", x.battery(0), 0);
    }

    private static ClusterField bothSlots() {
        ClusterField x = Networks.atBase(1);
        x.save(0);
        x.save(1);
        return x;
    }

    private void restoreSlots() {
        a.holds(28, "`slot`: 0 or 1");
        range(0, 1, v -> bothSlots().restore(v));
    }

    private void restoredSensors() {
        a.holds(28, "Returns the number of sensors afterwards");
        ClusterField x = new ClusterField();
        x.save(0);
        for (int n = 0; n < 12; n++) {
            x.addSensor(n, n, n);
        }
        x.save(1);
        a.due("none", x.restore(0), 0);
        a.due("twelve", x.restore(1), 12);
        a.due("the last of them", x.battery(11), 11);
        a.due("a 13th", x.addSensor(0, 0, 0), FULL);
    }

    private void wrongRestoreSlot() {
        a.holds(28, "INVALID_ARGUMENT if slot is neither 0 nor 1");
        int[] wrong = {LEAST, NONE, -1, 2, GREATEST};
        for (int slot : wrong) {
            a.due("slot " + slot, bothSlots().restore(slot), INVALID);
            a.due("slot " + slot + ", both empty", new ClusterField().restore(slot), INVALID);
        }
    }

    private void emptySlot() {
        a.holds(28, "ILLEGAL_STATE if the slot is empty");
        ClusterField x = Networks.atBase(1);
        a.due("slot 0", x.restore(0), ILLEGAL);
        a.due("slot 1", x.restore(1), ILLEGAL);
        x.save(0);
        a.due("slot 1, 0 is filled", x.restore(1), ILLEGAL);
        a.due("slot 0", x.restore(0), 1);
        ClusterField y = Networks.atBase(1);
        y.save(1);
        a.due("slot 0, 1 is filled", y.restore(0), ILLEGAL);
        y.undo();
        a.due("undo does not empty a slot", y.restore(1), 1);
    }
}
