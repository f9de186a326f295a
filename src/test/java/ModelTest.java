import java.util.ArrayDeque;

/** Long runs of mixed calls, each answered by the class and by the model; the first difference of a run is told. */
public final class ModelTest {
    private static final int OBJECTS = 600;
    private static final int CALLS = 512;
    private static final int[] EDGES = {
        Integer.MIN_VALUE, -10, -9, -8, -2, -1, 0, 1, 2, 5, 6, 8, 9, 11, 12, 50, 51, 99, 100, 199, 200, 300, 301,
        1000, 1001, 100000, 100001, 1000000, Integer.MAX_VALUE
    };

    private static final Answers A = new Answers("ModelTest");
    private final ArrayDeque<String> calls = new ArrayDeque<>();
    private final ClusterField field = new ClusterField();
    private final Model model = new Model();
    // How rich the batteries of this run are, for long lives and quick deaths.
    private final int riches;
    private long dice;
    private int asked = 0;
    private boolean differs = false;

    private ModelTest(int number) {
        dice = 88172645463325252L + number * 7919L;
        riches = new int[] {40, 150, 400, 2000, 100000}[number % 5];
    }

    public static void main(String[] args) {
        for (int number = 0; number < OBJECTS; number++) {
            new ModelTest(number).play(number);
        }
        A.finish();
    }

    private void play(int number) {
        while (asked < CALLS && !differs) {
            change();
            for (int n = below(6); n > 0 && !differs; n--) {
                ask();
            }
            if (below(25) == 0) {
                askAll();
            }
        }
        A.due("run " + number + (differs ? " " + calls : ""), differs ? 1 : 0, 0);
    }

    private int below(int bound) {
        dice ^= dice << 13;
        dice ^= dice >>> 7;
        dice ^= dice << 17;
        return (int) ((dice >>> 11) % bound);
    }

    // An edge at times, otherwise a number of the wanted range.
    private int number(int least, int greatest) {
        return below(12) == 0 ? EDGES[below(EDGES.length)] : least + below(greatest - least + 1);
    }

    private int sensor() {
        return number(0, Math.max(0, model.sensorCount() - 1));
    }

    private void same(String call, int got, int want) {
        asked++;
        if (asked > CALLS || differs) {
            return;
        }
        calls.addLast(call + " = " + got);
        if (calls.size() > 40) {
            calls.removeFirst();
        }
        if (got != want) {
            differs = true;
            calls.addLast("but due is " + want);
        }
    }

    private void change() {
        switch (below(18)) {
            case 0, 1, 2, 3 -> {
                int x = number(0, 99);
                int y = number(0, 99);
                int b = below(8) == 0 ? number(0, 100000) : number(0, riches);
                same("addSensor(" + x + ", " + y + ", " + b + ")", field.addSensor(x, y, b), model.addSensor(x, y, b));
            }
            case 4 -> {
                int x = number(0, 199);
                int y = number(0, 199);
                same("moveBase(" + x + ", " + y + ")", field.moveBase(x, y), model.moveBase(x, y));
            }
            case 5, 6, 7 -> {
                int[] greatest = {8, 50, 1000, 20, 50, 1};
                int s = number(0, 5);
                int v = number(0, s < 0 || s > 5 ? 9 : greatest[s]);
                same("setSetting(" + s + ", " + v + ")", field.setSetting(s, v), model.setSetting(s, v));
            }
            case 8 -> {
                int g = number(0, Integer.MAX_VALUE - 1);
                same("setGenerator(" + g + ")", field.setGenerator(g), model.setGenerator(g));
            }
            case 9 -> {
                int s = sensor();
                int u = below(3) == 0 ? number(1, 100000) : number(1, riches);
                same("charge(" + s + ", " + u + ")", field.charge(s, u), model.charge(s, u));
            }
            case 10, 11, 12, 13 -> {
                int r = below(3) == 0 ? number(1, 50) : 1 + below(3);
                same("run(" + r + ")", field.run(r), model.run(r));
            }
            case 14, 15 -> same("undo()", field.undo(), model.undo());
            case 16 -> {
                int s = number(0, 1);
                same("save(" + s + ")", field.save(s), model.save(s));
            }
            default -> {
                int s = number(0, 1);
                same("restore(" + s + ")", field.restore(s), model.restore(s));
            }
        }
    }

    private void ask() {
        int s = sensor();
        switch (below(19)) {
            case 0 -> same("roundNumber()", field.roundNumber(), model.roundNumber());
            case 1 -> same("sensorCount()", field.sensorCount(), model.sensorCount());
            case 2 -> same("aliveCount()", field.aliveCount(), model.aliveCount());
            case 3 -> same("isAlive(" + s + ")", field.isAlive(s), model.isAlive(s));
            case 4 -> same("battery(" + s + ")", field.battery(s), model.battery(s));
            case 5 -> same("isEligible(" + s + ")", field.isEligible(s), model.isEligible(s));
            case 6 -> same("headRounds(" + s + ")", field.headRounds(s), model.headRounds(s));
            case 7 -> same("deathRound(" + s + ")", field.deathRound(s), model.deathRound(s));
            case 8 -> same("headOf(" + s + ")", field.headOf(s), model.headOf(s));
            case 9 -> same("slotOf(" + s + ")", field.slotOf(s), model.slotOf(s));
            case 10 -> same("headCount()", field.headCount(), model.headCount());
            case 11 -> same("lastDelivered()", field.lastDelivered(), model.lastDelivered());
            case 12 -> same("deliveredTotal()", field.deliveredTotal(), model.deliveredTotal());
            case 13 -> same("energyPaid()", field.energyPaid(), model.energyPaid());
            case 14 -> {
                int t = below(3) == 0 ? -9 : sensor();
                same("sendCost(" + s + ", " + t + ")", field.sendCost(s, t), model.sendCost(s, t));
            }
            case 15, 16 -> {
                int r = number(1, 300);
                same("forecastDeath(" + s + ", " + r + ")", field.forecastDeath(s, r), model.forecastDeath(s, r));
            }
            case 17 -> {
                int r = number(1, 300);
                same("forecastDelivered(" + r + ")", field.forecastDelivered(r), model.forecastDelivered(r));
            }
            default -> same("undoDepth()", field.undoDepth(), model.undoDepth());
        }
    }

    private void askAll() {
        for (int s = 0; s < model.sensorCount() && !differs; s++) {
            same("isAlive(" + s + ")", field.isAlive(s), model.isAlive(s));
            same("battery(" + s + ")", field.battery(s), model.battery(s));
            same("isEligible(" + s + ")", field.isEligible(s), model.isEligible(s));
            same("headRounds(" + s + ")", field.headRounds(s), model.headRounds(s));
            same("deathRound(" + s + ")", field.deathRound(s), model.deathRound(s));
            same("headOf(" + s + ")", field.headOf(s), model.headOf(s));
            same("slotOf(" + s + ")", field.slotOf(s), model.slotOf(s));
        }
        same("energyPaid()", field.energyPaid(), model.energyPaid());
        same("deliveredTotal()", field.deliveredTotal(), model.deliveredTotal());
    }
}
