/** Networks in which the edges are easy to reckon, and ways to have the wanted heads elected. */
final class Networks {
    private Networks() {
    }

    /** All sensors stand at the base: sending a message costs the electronics, at first 5, wherever it goes. */
    static ClusterField atBase(int... batteries) {
        ClusterField x = new ClusterField();
        x.moveBase(50, 50);
        for (int battery : batteries) {
            x.addSensor(50, 50, battery);
        }
        return x;
    }

    /** The next round elects as the pattern says, if it has phase 0 of the first cycle setting. */
    static ClusterField elect(ClusterField x, String pattern) {
        return elect(x, 4, pattern);
    }

    static ClusterField elect(ClusterField x, int left, String pattern) {
        x.setGenerator(Draws.electing(left, pattern));
        return x;
    }

    static ClusterField runOne(ClusterField x, String pattern) {
        elect(x, pattern).run(1);
        return x;
    }

    static ClusterField full(int battery) {
        ClusterField x = new ClusterField();
        x.moveBase(50, 50);
        for (int n = 0; n < 12; n++) {
            x.addSensor(50, 50, battery);
        }
        return x;
    }
}
