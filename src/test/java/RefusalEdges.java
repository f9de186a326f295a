import java.util.Arrays;
import java.util.function.Supplier;
import java.util.function.ToIntFunction;
import java.util.stream.IntStream;

/** Edges of 'Errors': each refused call with its code, also where two apply, and that it changes nothing. */
final class RefusalEdges {
    private static final int INVALID = -1;
    private static final int ILLEGAL = -2;
    private static final int FULL = -3;
    private static final int NONE = -9;
    private static final int LEAST = Integer.MIN_VALUE;
    private static final int GREATEST = Integer.MAX_VALUE;
    private static final int PROBES = 10;
    private static final String IF_SEVERAL =
            "If several error conditions apply, the method returns the one that its description lists first";

    private final Answers a;

    RefusalEdges(Answers answers) {
        a = answers;
    }

    void run() {
        a.each(
            this::invalidArgument,
            this::illegalState,
            this::capacityExceeded,
            this::none,
            this::wrongNumbersChangeNothing,
            this::wrongSensorsChangeNothing,
            this::wrongSlotsChangeNothing,
            this::impossibleCallsChangeNothing,
            this::callsWithoutSensorsChangeNothing,
            this::wrongArgumentOfAFullNetwork,
            this::wrongUnitsForTheDeadOrTheFull,
            this::wrongRoundsWithNobodyAlive,
            this::wrongForecastOfTheDead,
            this::wrongAndEmptySlot,
            this::wrongSensorAndNoSuchValue,
            this::wrongRoundsAndNoDeath,
            this::wrongSensorAndWrongTarget);
    }

    // 0 has a battery that nothing can be added to, 3 is dead; six states are saved, slot 0 is filled, slot 1 is not.
    private static ClusterField busy() {
        ClusterField x = new ClusterField();
        x.addSensor(10, 20, 100000);
        x.addSensor(30, 80, 9000);
        x.addSensor(70, 90, 5000);
        x.addSensor(71, 95, 0);
        x.run(3);
        x.save(0);
        x.moveBase(60, 140);
        x.setSetting(2, 90);
        for (int n = 0; n < 9; n++) {
            x.charge(0, 100000);
        }
        x.charge(0, 1000000 - x.battery(0));
        return x;
    }

    private static ClusterField full() {
        ClusterField x = new ClusterField();
        x.save(1);
        for (int n = 0; n < 12; n++) {
            x.addSensor(8 * n, 99 - 8 * n, n == 3 ? 0 : 900);
        }
        x.run(2);
        x.save(0);
        x.run(1);
        return x;
    }

    private static ClusterField dead() {
        return Networks.runOne(Networks.atBase(4, 3), "00");
    }

    private static ClusterField restored() {
        ClusterField x = busy();
        x.restore(0);
        return x;
    }

    /** All that can be seen of a state, of the saved ones and of the snapshots, each on a new object. */
    private static int[] everything(Supplier<ClusterField> state, ToIntFunction<ClusterField> call) {
        return IntStream.range(0, PROBES).flatMap(n -> Arrays.stream(probe(state, call, n))).toArray();
    }

    private static int[] probe(Supplier<ClusterField> state, ToIntFunction<ClusterField> call, int number) {
        ClusterField x = state.get();
        call.applyAsInt(x);
        int answer = 0;
        for (int n = 0; n < number && number <= 6; n++) {
            answer = x.undo();
        }
        if (number == 7 || number == 8) {
            answer = x.restore(number - 7);
        }
        // Rounds tell of the generator's state.
        if (number == 9) {
            answer = x.run(9);
        }
        IntStream told = Arrays.stream(Answers.told(x));
        IntStream last = IntStream.of(answer, x.setSetting(0, 2), x.setSetting(1, 1), x.setSetting(2, 1),
                x.setSetting(3, 0), x.setSetting(4, 0), x.setSetting(5, 0), x.moveBase(0, 0));
        return IntStream.concat(told, last).toArray();
    }

    private void refused(String name, int code, Supplier<ClusterField> state, ToIntFunction<ClusterField> call) {
        a.due(name, call.applyAsInt(state.get()), code);
        a.same(name, everything(state, call), everything(state, x -> code));
    }

    private void wrong(String name, Supplier<ClusterField> state, ToIntFunction<ClusterField> call) {
        refused(name, INVALID, state, call);
    }

    private void invalidArgument() {
        a.holds(1, "Errors", "`INVALID_ARGUMENT = -1`: An argument is out of range, or there is no such sensor");
        a.due("constant", ClusterField.INVALID_ARGUMENT, INVALID);
        a.due("out of range", new ClusterField().save(2), INVALID);
        a.due("no such sensor", new ClusterField().battery(0), INVALID);
    }

    private void illegalState() {
        a.holds(1, "Errors", "`ILLEGAL_STATE = -2`: The call is not possible in the present state");
        a.due("constant", ClusterField.ILLEGAL_STATE, ILLEGAL);
        a.due("nothing to undo", new ClusterField().undo(), ILLEGAL);
    }

    private void capacityExceeded() {
        a.holds(1, "Errors", "`CAPACITY_EXCEEDED = -3`: There are 12 sensors");
        a.due("constant", ClusterField.CAPACITY_EXCEEDED, FULL);
        a.due("a 13th", full().addSensor(0, 0, 0), FULL);
    }

    private void none() {
        a.holds(1, "Errors", "`NONE = -9`: There is no such value");
        a.due("constant", ClusterField.NONE, NONE);
        a.due("alive", full().deathRound(0), NONE);
    }

    private void wrongNumbersChangeNothing() {
        a.holds(2, "Errors", "A call that returns an error code changes nothing");
        for (int w : new int[] {LEAST, -1, 100001, GREATEST}) {
            wrong("addSensor(" + w + ", 1, 1)", RefusalEdges::busy, x -> x.addSensor(w, 1, 1));
            wrong("addSensor(1, " + w + ", 1)", RefusalEdges::busy, x -> x.addSensor(1, w, 1));
            wrong("addSensor(1, 1, " + w + ")", RefusalEdges::busy, x -> x.addSensor(1, 1, w));
            wrong("moveBase(" + w + ", 1)", RefusalEdges::busy, x -> x.moveBase(w, 1));
            wrong("moveBase(1, " + w + ")", RefusalEdges::busy, x -> x.moveBase(1, w));
            wrong("setSetting(" + w + ", 3)", RefusalEdges::busy, x -> x.setSetting(w, 3));
            wrong("charge(1, " + w + ")", RefusalEdges::busy, x -> x.charge(1, w));
            wrong("run(" + w + ")", RefusalEdges::busy, x -> x.run(w));
            wrong("forecastDeath(1, " + w + ")", RefusalEdges::busy, x -> x.forecastDeath(1, w));
            wrong("forecastDelivered(" + w + ")", RefusalEdges::busy, x -> x.forecastDelivered(w));
            for (int s = 0; s < 6; s++) {
                int setting = s;
                wrong("setSetting(" + s + ", " + w + ")", RefusalEdges::busy, x -> x.setSetting(setting, w));
            }
        }
        wrong("setGenerator(-1)", RefusalEdges::busy, x -> x.setGenerator(-1));
        wrong("setGenerator(least)", RefusalEdges::busy, x -> x.setGenerator(LEAST));
    }

    private void wrongSensorsChangeNothing() {
        a.holds(6, "Errors", "An argument is out of range, or there is no such sensor");
        for (int w : new int[] {LEAST, -1, 4, 12, GREATEST}) {
            wrong("charge(" + w + ", 1)", RefusalEdges::busy, x -> x.charge(w, 1));
            wrong("isAlive(" + w + ")", RefusalEdges::busy, x -> x.isAlive(w));
            wrong("battery(" + w + ")", RefusalEdges::busy, x -> x.battery(w));
            wrong("isEligible(" + w + ")", RefusalEdges::busy, x -> x.isEligible(w));
            wrong("headRounds(" + w + ")", RefusalEdges::busy, x -> x.headRounds(w));
            wrong("deathRound(" + w + ")", RefusalEdges::busy, x -> x.deathRound(w));
            wrong("headOf(" + w + ")", RefusalEdges::busy, x -> x.headOf(w));
            wrong("slotOf(" + w + ")", RefusalEdges::busy, x -> x.slotOf(w));
            wrong("sendCost(" + w + ", -9)", RefusalEdges::busy, x -> x.sendCost(w, NONE));
            wrong("sendCost(0, " + w + ")", RefusalEdges::busy, x -> x.sendCost(0, w));
            wrong("forecastDeath(" + w + ", 1)", RefusalEdges::busy, x -> x.forecastDeath(w, 1));
        }
        wrong("sendCost(1, 1)", RefusalEdges::busy, x -> x.sendCost(1, 1));
    }

    private void wrongSlotsChangeNothing() {
        a.holds(28, "Errors", "A call that returns an error code changes nothing");
        for (int w : new int[] {LEAST, -1, 2, GREATEST}) {
            wrong("save(" + w + ")", RefusalEdges::full, x -> x.save(w));
            wrong("restore(" + w + ")", RefusalEdges::full, x -> x.restore(w));
        }
    }

    private void impossibleCallsChangeNothing() {
        a.holds(7, "Errors", "The call is not possible in the present state");
        int[] present = {4, 5, 90, 1, 2, 0};
        for (int s = 0; s < 6; s++) {
            int setting = s;
            refused("setSetting " + s, ILLEGAL, RefusalEdges::busy, x -> x.setSetting(setting, present[setting]));
        }
        refused("charge, greatest battery", ILLEGAL, RefusalEdges::busy, x -> x.charge(0, 1));
        refused("charge, dead", ILLEGAL, RefusalEdges::busy, x -> x.charge(3, 1));
        refused("forecastDeath, dead", ILLEGAL, RefusalEdges::busy, x -> x.forecastDeath(3, 1));
        refused("restore, empty slot", ILLEGAL, RefusalEdges::busy, x -> x.restore(1));
        refused("run, all dead", ILLEGAL, RefusalEdges::dead, x -> x.run(1));
        refused("undo, nothing saved", ILLEGAL, RefusalEdges::restored, ClusterField::undo);
        refused("addSensor, full", FULL, RefusalEdges::full, x -> x.addSensor(1, 1, 1));
    }

    private void callsWithoutSensorsChangeNothing() {
        a.holds(1, "Errors", "A call that returns an error code changes nothing");
        refused("run", ILLEGAL, ClusterField::new, x -> x.run(1));
        refused("undo", ILLEGAL, ClusterField::new, ClusterField::undo);
        refused("restore 0", ILLEGAL, ClusterField::new, x -> x.restore(0));
        refused("restore 1", ILLEGAL, ClusterField::new, x -> x.restore(1));
        wrong("charge", ClusterField::new, x -> x.charge(0, 1));
        wrong("battery", ClusterField::new, x -> x.battery(0));
        wrong("sendCost", ClusterField::new, x -> x.sendCost(0, NONE));
        wrong("forecastDeath", ClusterField::new, x -> x.forecastDeath(0, 1));
    }

    private void wrongArgumentOfAFullNetwork() {
        a.holds(2, "Errors", IF_SEVERAL);
        wrong("x too small", RefusalEdges::full, x -> x.addSensor(-1, 0, 0));
        wrong("x too large", RefusalEdges::full, x -> x.addSensor(100, 0, 0));
        wrong("y too small", RefusalEdges::full, x -> x.addSensor(0, -1, 0));
        wrong("y too large", RefusalEdges::full, x -> x.addSensor(0, 100, 0));
        wrong("battery too small", RefusalEdges::full, x -> x.addSensor(0, 0, -1));
        wrong("battery too large", RefusalEdges::full, x -> x.addSensor(0, 0, 100001));
    }

    private void wrongUnitsForTheDeadOrTheFull() {
        a.holds(6, "Errors", IF_SEVERAL);
        wrong("dead, units 0", RefusalEdges::busy, x -> x.charge(3, 0));
        wrong("dead, units 100001", RefusalEdges::busy, x -> x.charge(3, 100001));
        wrong("greatest battery, units 0", RefusalEdges::busy, x -> x.charge(0, 0));
        wrong("greatest battery, units 100001", RefusalEdges::busy, x -> x.charge(0, 100001));
        wrong("greatest battery, greatest units", RefusalEdges::busy, x -> x.charge(0, GREATEST));
        wrong("no such sensor, units 0", RefusalEdges::busy, x -> x.charge(4, 0));
    }

    private void wrongRoundsWithNobodyAlive() {
        a.holds(7, "Errors", IF_SEVERAL);
        wrong("all dead, 0 rounds", RefusalEdges::dead, x -> x.run(0));
        wrong("all dead, 51 rounds", RefusalEdges::dead, x -> x.run(51));
        wrong("no sensors, 0 rounds", ClusterField::new, x -> x.run(0));
        wrong("no sensors, 51 rounds", ClusterField::new, x -> x.run(51));
        wrong("no sensors, forecast of 0 rounds", ClusterField::new, x -> x.forecastDelivered(0));
        wrong("no sensors, forecast of 301 rounds", ClusterField::new, x -> x.forecastDelivered(301));
    }

    private void wrongForecastOfTheDead() {
        a.holds(23, "Errors", IF_SEVERAL);
        wrong("dead, 0 rounds", RefusalEdges::busy, x -> x.forecastDeath(3, 0));
        wrong("dead, 301 rounds", RefusalEdges::busy, x -> x.forecastDeath(3, 301));
        wrong("no such sensor, 0 rounds", RefusalEdges::busy, x -> x.forecastDeath(4, 0));
    }

    private void wrongAndEmptySlot() {
        a.holds(28, "Errors", IF_SEVERAL);
        wrong("both slots empty, -1", ClusterField::new, x -> x.restore(-1));
        wrong("both slots empty, 2", ClusterField::new, x -> x.restore(2));
        wrong("one slot empty, 2", RefusalEdges::busy, x -> x.restore(2));
    }

    private void wrongSensorAndNoSuchValue() {
        a.holds(16, "Errors", "NONE is no error, and it is returned only if no error condition applies");
        wrong("headOf before any round", ClusterField::new, x -> x.headOf(0));
        wrong("slotOf before any round", ClusterField::new, x -> x.slotOf(0));
        wrong("deathRound without sensors", ClusterField::new, x -> x.deathRound(0));
        wrong("deathRound beyond the living", RefusalEdges::full, x -> x.deathRound(12));
        wrong("headOf(-9)", RefusalEdges::full, x -> x.headOf(NONE));
        wrong("slotOf(-9)", RefusalEdges::full, x -> x.slotOf(NONE));
        wrong("deathRound(-9)", RefusalEdges::full, x -> x.deathRound(NONE));
        a.due("headOf", Networks.atBase(1).headOf(0), NONE);
        a.due("slotOf", Networks.atBase(1).slotOf(0), NONE);
        a.due("deathRound", Networks.atBase(1).deathRound(0), NONE);
    }

    private void wrongRoundsAndNoDeath() {
        a.holds(23, "Errors", "NONE is no error, and it is returned only if no error condition applies");
        wrong("0 rounds, alive at the end", RefusalEdges::busy, x -> x.forecastDeath(0, 0));
        wrong("301 rounds, alive at the end", RefusalEdges::busy, x -> x.forecastDeath(0, 301));
        a.due("300 rounds, alive at the end", busy().forecastDeath(0, 300), NONE);
    }

    private void wrongSensorAndWrongTarget() {
        a.holds(22, "Errors", "An argument is out of range, or there is no such sensor");
        wrong("no such sensor, twice the same", RefusalEdges::busy, x -> x.sendCost(4, 4));
        wrong("NONE to NONE", RefusalEdges::busy, x -> x.sendCost(NONE, NONE));
        wrong("no such sensor to the base", RefusalEdges::busy, x -> x.sendCost(4, NONE));
        wrong("no such sensor to one", RefusalEdges::busy, x -> x.sendCost(4, 0));
        wrong("NONE to a sensor", RefusalEdges::busy, x -> x.sendCost(NONE, 0));
        wrong("to -8", RefusalEdges::busy, x -> x.sendCost(0, -8));
        wrong("to -10", RefusalEdges::busy, x -> x.sendCost(0, -10));
    }
}
