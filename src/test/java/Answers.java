import java.util.ArrayList;
import java.util.Arrays;
import java.util.List;

/** Counts the answers that are not the ones that are due, and tells each of them. */
final class Answers {
    /** Words of the document that a test holds, and the section that says them. */
    record Held(String section, String words) {
    }

    private final String title;
    private final List<Held> held = new ArrayList<>();
    private String prefix = "";
    private int asked = 0;
    private int wrong = 0;

    Answers(String title) {
        this.title = title;
    }

    /** The answers that follow, up to the next call of holds, hold these words of a promise. */
    void holds(int promise, String words) {
        holds(promise, "Promise " + promise, words);
    }

    /** The same with words of the Description, beside the promise that they matter to most. */
    void holds(int promise, String section, String words) {
        held.add(new Held(section, words));
        prefix = "promise " + promise + ", " + section + ", \"" + words + "\": ";
    }

    /** The answers that follow hold no words of the document. */
    void holdsNothing() {
        prefix = "";
    }

    /** Runs each of the tests, also when one of those before it throws. */
    void each(Runnable... tests) {
        for (Runnable test : tests) {
            try {
                test.run();
            } catch (RuntimeException e) {
                wrong++;
                System.out.println(prefix + "threw " + e);
            }
        }
    }

    List<Held> allHeld() {
        return held;
    }

    void due(String call, long got, long want) {
        asked++;
        if (got != want) {
            wrong++;
            System.out.println(prefix + call + " answered " + got + ", due is " + want);
        }
    }

    void same(String what, int[] got, int[] want) {
        asked++;
        if (!Arrays.equals(got, want)) {
            wrong++;
            System.out.println(prefix + what + " left " + Arrays.toString(got) + ", due is " + Arrays.toString(want));
        }
    }

    void finish() {
        System.out.println(title + ": " + asked + " asked, " + wrong + " wrong");
        if (wrong != 0 || asked == 0) {
            System.exit(1);
        }
    }

    /** All that the queries tell, at most 300 calls; the forecasts tell of the generator and the settings as well. */
    static int[] told(ClusterField x) {
        int sensors = x.sensorCount();
        int[] told = new int[8 + sensors * (9 + sensors)];
        int n = 0;
        told[n++] = x.roundNumber();
        told[n++] = x.aliveCount();
        told[n++] = x.headCount();
        told[n++] = x.lastDelivered();
        told[n++] = x.deliveredTotal();
        told[n++] = x.energyPaid();
        told[n++] = x.undoDepth();
        for (int sensor = 0; sensor < sensors; sensor++) {
            told[n++] = x.isAlive(sensor);
            told[n++] = x.battery(sensor);
            told[n++] = x.isEligible(sensor);
            told[n++] = x.headRounds(sensor);
            told[n++] = x.deathRound(sensor);
            told[n++] = x.headOf(sensor);
            told[n++] = x.slotOf(sensor);
            told[n++] = x.sendCost(sensor, -9);
            told[n++] = x.forecastDeath(sensor, 40);
            for (int target = 0; target < sensors; target++) {
                told[n++] = x.sendCost(sensor, target);
            }
        }
        told[n++] = x.forecastDelivered(7);
        return told;
    }
}
