/**
 * Each promise of ../shared/DOC.md by hand-worked runs: ordinary inputs, edges and wrong inputs.
 * With the first cycle setting a draw below 250 elects in phase 0. The generator states used most, with their draws:
 * 18: 177 842 251 826 937 (elects the first of five), 15: 198 203 874 630 581 (the first two),
 * 65: 146 165 161 931 (the first three of four), 27: none of twelve, 1: 838 758 113 515 (the third).
 */
public final class PromiseTest {
    private static final int INVALID = -1;
    private static final int ILLEGAL = -2;
    private static final int FULL = -3;
    private static final int NONE = -9;
    private static final int LEAST_INT = Integer.MIN_VALUE;
    private static final int GREATEST_INT = Integer.MAX_VALUE;

    private static final int ELECTS_FIRST = 18;
    private static final int ELECTS_TWO = 15;
    private static final int ELECTS_THREE = 65;
    private static final int ELECTS_NONE = 27;

    private static final Answers A = new Answers("PromiseTest");

    public static void main(String[] args) {
        constants();
        promise1NewObject();
        promise2AddSensor();
        promise3MoveBase();
        promise4SetSetting();
        promise4SettingsAtWork();
        promise5SetGenerator();
        promise6Charge();
        promise7Run();
        promise8RoundNumber();
        promise9And10Counts();
        promise11IsAlive();
        promise12Battery();
        promise13IsEligible();
        promise14HeadRounds();
        promise15DeathRound();
        promise16And17HeadAndSlot();
        promise18To21Totals();
        promise22SendCost();
        promise23ForecastDeath();
        promise24ForecastDelivered();
        promise25And26Undo();
        promise27And28Snapshots();
        election();
        announcement();
        joining();
        reportingToHeads();
        forwarding();
        directDelivery();
        relayDelivery();
        relayChoice();
        roundWithoutHeads();
        documentExamples();
        errorsChangeNothing();
        A.finish();
    }

    // Five sensors: 0 is to be the head, the others cost 6, 6, 5 and 6 units to send to it.
    private static ClusterField oneCluster(int headBattery, int firstBattery) {
        ClusterField x = new ClusterField();
        x.addSensor(50, 50, headBattery);
        x.addSensor(50, 60, firstBattery);
        x.addSensor(60, 50, 1000);
        x.addSensor(50, 50, 1000);
        x.addSensor(40, 50, 1000);
        x.setGenerator(ELECTS_FIRST);
        return x;
    }

    // Heads 0, 1 and 2 with relay routing, 1 the nearest to the base; sensor 3 joins 0.
    private static ClusterField relayNetwork(int first, int relay, int third) {
        ClusterField x = new ClusterField();
        x.addSensor(50, 40, first);
        x.addSensor(50, 60, relay);
        x.addSensor(50, 50, third);
        x.addSensor(50, 41, 1000);
        x.setSetting(5, 1);
        x.setGenerator(ELECTS_THREE);
        return x;
    }

    private static ClusterField lone(int battery) {
        ClusterField x = new ClusterField();
        x.addSensor(50, 50, battery);
        return x;
    }

    private static void constants() {
        A.due("INVALID_ARGUMENT", ClusterField.INVALID_ARGUMENT, -1);
        A.due("ILLEGAL_STATE", ClusterField.ILLEGAL_STATE, -2);
        A.due("CAPACITY_EXCEEDED", ClusterField.CAPACITY_EXCEEDED, -3);
        A.due("NONE", ClusterField.NONE, -9);
    }

    private static void promise1NewObject() {
        ClusterField x = new ClusterField();
        A.due("1 roundNumber", x.roundNumber(), 0);
        A.due("1 sensorCount", x.sensorCount(), 0);
        A.due("1 aliveCount", x.aliveCount(), 0);
        A.due("1 headCount", x.headCount(), 0);
        A.due("1 lastDelivered", x.lastDelivered(), 0);
        A.due("1 deliveredTotal", x.deliveredTotal(), 0);
        A.due("1 energyPaid", x.energyPaid(), 0);
        A.due("1 undoDepth", x.undoDepth(), 0);
        A.due("1 undo", x.undo(), ILLEGAL);
        A.due("1 run", x.run(1), ILLEGAL);
        A.due("1 restore 0", x.restore(0), ILLEGAL);
        A.due("1 restore 1", x.restore(1), ILLEGAL);
        int[] first = {4, 5, 100, 1, 2, 0};
        for (int setting = 0; setting < 6; setting++) {
            A.due("1 first setting " + setting, x.setSetting(setting, first[setting]), ILLEGAL);
        }
        A.due("1 first base", x.moveBase(50, 150), 200 * 50 + 150);
    }

    private static void promise2AddSensor() {
        ClusterField x = new ClusterField();
        A.due("2 x -1", x.addSensor(-1, 0, 0), INVALID);
        A.due("2 x 100", x.addSensor(100, 0, 0), INVALID);
        A.due("2 y -1", x.addSensor(0, -1, 0), INVALID);
        A.due("2 y 100", x.addSensor(0, 100, 0), INVALID);
        A.due("2 battery -1", x.addSensor(0, 0, -1), INVALID);
        A.due("2 battery 100001", x.addSensor(0, 0, 100001), INVALID);
        A.due("2 least", x.addSensor(LEAST_INT, LEAST_INT, LEAST_INT), INVALID);
        A.due("2 greatest", x.addSensor(GREATEST_INT, GREATEST_INT, GREATEST_INT), INVALID);
        A.due("2 count", x.sensorCount(), 0);
        A.due("2 corner", x.addSensor(0, 0, 0), 0);
        A.due("2 far corner", x.addSensor(99, 99, 100000), 1);
        A.due("2 battery", x.battery(1), 100000);
        A.due("2 alive", x.isAlive(0), 1);
        A.due("2 eligible", x.isEligible(0), 1);
        A.due("2 saved", x.undoDepth(), 2);
        for (int n = 2; n < 12; n++) {
            A.due("2 next", x.addSensor(n, n, n), n);
        }
        A.due("2 full", x.addSensor(0, 0, 0), FULL);
        A.due("2 invalid before full", x.addSensor(0, 0, -1), INVALID);
        A.due("2 count when full", x.sensorCount(), 12);

        ClusterField later = lone(1000);
        later.setGenerator(ELECTS_FIRST);
        later.run(1);
        A.due("2 added later", later.addSensor(1, 1, 1), 1);
        A.due("2 added later is eligible", later.isEligible(1), 1);
        A.due("2 the other is not", later.isEligible(0), 0);
        later.undo();
        A.due("2 added in the same place", later.addSensor(2, 2, 7), 1);
        A.due("2 its battery", later.battery(1), 7);
        A.due("2 its head", later.headOf(1), NONE);
        usedPlace();
    }

    // A sensor takes the number of one that was head and died, before a restore: nothing of that one is left.
    private static void usedPlace() {
        ClusterField x = new ClusterField();
        x.save(0);
        x.setGenerator(ELECTS_FIRST);
        x.addSensor(50, 50, 107);
        x.run(2);
        A.due("2 the first one was head", x.headRounds(0), 1);
        A.due("2 the first one died", x.isAlive(0), 0);
        x.restore(0);
        A.due("2 the second one", x.addSensor(1, 2, 3), 0);
        A.due("2 its battery", x.battery(0), 3);
        A.due("2 it lives", x.isAlive(0), 1);
        A.due("2 it was never head", x.headRounds(0), 0);
        A.due("2 it is not dead", x.deathRound(0), NONE);
        A.due("2 it is in no cluster", x.headOf(0), NONE);
        A.due("2 it has no slot", x.slotOf(0), NONE);
        x.setSetting(0, 3);
        x.setSetting(0, 8);
        A.due("2 it is eligible", x.isEligible(0), 1);
    }

    private static void promise3MoveBase() {
        ClusterField x = lone(1000);
        A.due("3 x -1", x.moveBase(-1, 0), INVALID);
        A.due("3 x 200", x.moveBase(200, 0), INVALID);
        A.due("3 y -1", x.moveBase(0, -1), INVALID);
        A.due("3 y 200", x.moveBase(0, 200), INVALID);
        A.due("3 least", x.moveBase(LEAST_INT, GREATEST_INT), INVALID);
        A.due("3 first", x.moveBase(0, 199), 10150);
        A.due("3 cost", x.sendCost(0, NONE), 5 + (2500 + 149 * 149) / 100);
        A.due("3 second", x.moveBase(199, 0), 199);
        A.due("3 third", x.moveBase(199, 199), 39800);
        int depth = x.undoDepth();
        A.due("3 same place", x.moveBase(199, 199), 39999);
        A.due("3 same place is saved", x.undoDepth(), depth + 1);
        x.undo();
        x.undo();
        A.due("3 undone", x.moveBase(0, 0), 39800);
    }

    private static void promise4SetSetting() {
        int[] first = {4, 5, 100, 1, 2, 0};
        int[] least = {2, 1, 1, 0, 0, 0};
        int[] greatest = {8, 50, 1000, 20, 50, 1};
        ClusterField x = new ClusterField();
        A.due("4 setting -1", x.setSetting(-1, 1), INVALID);
        A.due("4 setting 6", x.setSetting(6, 1), INVALID);
        A.due("4 least setting", x.setSetting(LEAST_INT, 4), INVALID);
        A.due("4 greatest setting", x.setSetting(GREATEST_INT, 4), INVALID);
        for (int s = 0; s < 6; s++) {
            A.due("4 below " + s, x.setSetting(s, least[s] - 1), INVALID);
            A.due("4 above " + s, x.setSetting(s, greatest[s] + 1), INVALID);
            A.due("4 far below " + s, x.setSetting(s, LEAST_INT), INVALID);
            A.due("4 present " + s, x.setSetting(s, first[s]), ILLEGAL);
            A.due("4 no change so far " + s, x.undoDepth(), 0);
            A.due("4 greatest " + s, x.setSetting(s, greatest[s]), first[s]);
            A.due("4 greatest again " + s, x.setSetting(s, greatest[s]), ILLEGAL);
            A.due("4 least " + s, x.setSetting(s, least[s]), greatest[s]);
            A.due("4 saved " + s, x.undoDepth(), 2);
            A.due("4 undo " + s, x.undo(), 1);
            A.due("4 undone " + s, x.setSetting(s, greatest[s]), ILLEGAL);
            A.due("4 undo all " + s, x.undo(), 0);
        }
    }

    // Each energy setting where a round pays it: announcement 4, aggregation 3, electronics 7, divisor 10.
    private static void promise4SettingsAtWork() {
        ClusterField x = new ClusterField();
        x.addSensor(50, 50, 3000);
        x.addSensor(50, 60, 1000);
        A.due("4 announcement", x.setSetting(4, 4), 2);
        A.due("4 aggregation", x.setSetting(3, 3), 1);
        A.due("4 electronics", x.setSetting(1, 7), 5);
        A.due("4 divisor", x.setSetting(2, 10), 100);
        x.setGenerator(ELECTS_FIRST);
        x.run(1);
        A.due("4 head paid", x.battery(0), 3000 - 4 - 7 - 3 - 3 - (7 + 1000));
        A.due("4 member paid", x.battery(1), 1000 - (7 + 10));
    }

    private static void promise5SetGenerator() {
        ClusterField x = lone(1000);
        A.due("5 negative", x.setGenerator(-1), INVALID);
        A.due("5 least", x.setGenerator(LEAST_INT), INVALID);
        A.due("5 unsaved", x.undoDepth(), 1);
        A.due("5 zero", x.setGenerator(0), 0);
        A.due("5 saved", x.undoDepth(), 2);
        A.due("5 same state is saved", x.setGenerator(0), 0);
        A.due("5 saved twice", x.undoDepth(), 3);
        x.run(1);
        A.due("5 draw 0 elects", x.headOf(0), 0);
        A.due("5 next round", x.setGenerator(GREATEST_INT), 1);

        // The greatest state draws 929, 409, 862, 718, 713, 226, 80: only the last two elect.
        ClusterField y = new ClusterField();
        for (int n = 0; n < 8; n++) {
            y.addSensor(50, 50, 1000);
        }
        y.setGenerator(GREATEST_INT);
        y.run(1);
        A.due("5 heads of the greatest state", y.headCount(), 3);
        A.due("5 nearest of them", y.headOf(0), 5);
        A.due("5 draw 80", y.headOf(6), 6);
        A.due("5 draw 63", y.headOf(7), 7);

        // The first state, 1, draws 838, 758, 113, 515, 51.
        ClusterField z = new ClusterField();
        for (int n = 0; n < 5; n++) {
            z.addSensor(50, 50, 1000);
        }
        z.run(1);
        A.due("5 2 is elected", z.headOf(2), 2);
        A.due("5 4 is elected", z.headOf(4), 4);
        A.due("5 heads of the first state", z.headCount(), 2);
    }

    private static void promise6Charge() {
        ClusterField x = new ClusterField();
        A.due("6 no sensor", x.charge(0, 1), INVALID);
        x.addSensor(0, 0, 100000);
        x.addSensor(0, 0, 0);
        x.addSensor(50, 99, 50);
        A.due("6 sensor -1", x.charge(-1, 1), INVALID);
        A.due("6 sensor 3", x.charge(3, 1), INVALID);
        A.due("6 units 0", x.charge(0, 0), INVALID);
        A.due("6 units -1", x.charge(0, LEAST_INT), INVALID);
        A.due("6 units 100001", x.charge(0, 100001), INVALID);
        A.due("6 greatest units", x.charge(0, GREATEST_INT), INVALID);
        A.due("6 one", x.charge(2, 1), 51);
        for (int n = 2; n <= 10; n++) {
            A.due("6 charge", x.charge(0, 100000), n * 100000);
        }
        A.due("6 more than 1000000", x.charge(0, 1), ILLEGAL);
        A.due("6 full battery", x.battery(0), 1000000);
        A.due("6 invalid first", x.charge(0, 0), INVALID);
        x.setGenerator(ELECTS_NONE);
        x.run(1);
        A.due("6 dead", x.charge(1, 1), ILLEGAL);
        A.due("6 dead, units 0", x.charge(1, 0), INVALID);
        A.due("6 dead keeps", x.battery(1), 0);
        A.due("6 paid in between", x.charge(0, 1), 1000000 - 5 - (2500 + 22500) / 100 + 1);
        A.due("6 just too much", x.charge(0, 255), ILLEGAL);
        A.due("6 up to the brim", x.charge(0, 254), 1000000);
        int depth = x.undoDepth();
        A.due("6 undo", x.undo(), depth - 1);
        A.due("6 undone", x.battery(0), 999746);
    }

    private static void promise7Run() {
        ClusterField x = new ClusterField();
        A.due("7 no sensors", x.run(1), ILLEGAL);
        A.due("7 invalid before illegal", x.run(0), INVALID);
        x.addSensor(50, 50, 100000);
        A.due("7 zero", x.run(0), INVALID);
        A.due("7 51", x.run(51), INVALID);
        A.due("7 least", x.run(LEAST_INT), INVALID);
        A.due("7 greatest", x.run(GREATEST_INT), INVALID);
        A.due("7 unsaved", x.undoDepth(), 1);
        A.due("7 one", x.run(1), 1);
        A.due("7 fifty", x.run(50), 50);
        A.due("7 saved once a call", x.undoDepth(), 3);
        A.due("7 rounds", x.roundNumber(), 51);
        A.due("7 undo", x.undo(), 2);
        A.due("7 undone", x.roundNumber(), 1);

        // 105 units a round without being elected, 108 when elected: 400 units last for three rounds.
        ClusterField y = lone(400);
        A.due("7 stops", y.run(50), 4);
        A.due("7 stopped", y.roundNumber(), 4);
        A.due("7 died", y.deathRound(0), 3);
        A.due("7 all dead", y.run(1), ILLEGAL);
        A.due("7 all dead, 51", y.run(51), INVALID);
        A.due("7 all dead, no round", y.roundNumber(), 4);
    }

    private static void promise8RoundNumber() {
        ClusterField x = lone(100000);
        A.due("8 none", x.roundNumber(), 0);
        x.run(7);
        A.due("8 seven", x.roundNumber(), 7);
        x.forecastDelivered(9);
        A.due("8 forecasts do not count", x.roundNumber(), 7);
        x.run(2);
        A.due("8 nine", x.roundNumber(), 9);
    }

    private static void promise9And10Counts() {
        ClusterField x = lone(1000);
        x.addSensor(50, 50, 0);
        x.addSensor(50, 50, 1000);
        A.due("9 three", x.sensorCount(), 3);
        A.due("10 three", x.aliveCount(), 3);
        x.setGenerator(ELECTS_NONE);
        x.run(1);
        A.due("9 dead included", x.sensorCount(), 3);
        A.due("10 dead left out", x.aliveCount(), 2);
        x.addSensor(1, 1, 1);
        A.due("9 four", x.sensorCount(), 4);
        A.due("10 three again", x.aliveCount(), 3);
    }

    private static void promise11IsAlive() {
        ClusterField x = lone(1000);
        x.addSensor(50, 50, 104);
        A.due("11 -1", x.isAlive(-1), INVALID);
        A.due("11 2", x.isAlive(2), INVALID);
        A.due("11 NONE", x.isAlive(NONE), INVALID);
        A.due("11 greatest", x.isAlive(GREATEST_INT), INVALID);
        A.due("11 alive", x.isAlive(1), 1);
        x.setGenerator(ELECTS_NONE);
        x.run(1);
        A.due("11 0 alive", x.isAlive(0), 1);
        A.due("11 1 dead", x.isAlive(1), 0);
        x.run(1);
        A.due("11 still dead", x.isAlive(1), 0);
    }

    private static void promise12Battery() {
        ClusterField x = lone(105);
        x.addSensor(50, 50, 104);
        A.due("12 -1", x.battery(-1), INVALID);
        A.due("12 2", x.battery(2), INVALID);
        A.due("12 least", x.battery(LEAST_INT), INVALID);
        A.due("12 full", x.battery(0), 105);
        x.setGenerator(ELECTS_NONE);
        x.run(1);
        A.due("12 just paid", x.battery(0), 0);
        A.due("12 alive with nothing", x.isAlive(0), 1);
        A.due("12 dead keeps its units", x.battery(1), 104);
    }

    private static void promise13IsEligible() {
        ClusterField x = oneCluster(100000, 1000);
        A.due("13 -1", x.isEligible(-1), INVALID);
        A.due("13 5", x.isEligible(5), INVALID);
        A.due("13 at first", x.isEligible(0), 1);
        x.run(1);
        A.due("13 was head", x.isEligible(0), 0);
        A.due("13 was none", x.isEligible(1), 1);
        A.due("13 cycle 8", x.setSetting(0, 8), 4);
        A.due("13 eligibility stays", x.isEligible(0), 0);
        x.run(6);
        A.due("13 round 7 of cycle 8", x.isEligible(0), 0);
        A.due("13 head but once", x.headRounds(0), 1);
        A.due("13 round 7 of cycle 7", x.setSetting(0, 7), 8);
        A.due("13 phase 0 of cycle 7", x.isEligible(0), 1);
        x.setSetting(0, 8);
        A.due("13 and not for good", x.isEligible(0), 0);
        x.run(1);
        A.due("13 next cycle", x.isEligible(0), 1);

        ClusterField dead = lone(0);
        dead.run(1);
        dead.addSensor(50, 50, 1000);
        dead.run(3);
        A.due("13 phase 0", dead.roundNumber(), 4);
        A.due("13 dead is never eligible", dead.isEligible(0), 0);
        A.due("13 the other is", dead.isEligible(1), 1);
    }

    private static void promise14HeadRounds() {
        ClusterField x = oneCluster(100000, 1000);
        A.due("14 -1", x.headRounds(-1), INVALID);
        A.due("14 5", x.headRounds(5), INVALID);
        A.due("14 none", x.headRounds(0), 0);
        x.run(1);
        A.due("14 one", x.headRounds(0), 1);
        A.due("14 member", x.headRounds(1), 0);
        x.run(3);
        // In phase 3 every sensor that is still eligible is elected: each was head once in the cycle.
        for (int n = 0; n < 5; n++) {
            A.due("14 once a cycle", x.headRounds(n), 1);
        }
        x.run(4);
        A.due("14 twice in two cycles", x.headRounds(0), 2);
    }

    private static void promise15DeathRound() {
        ClusterField x = lone(1000);
        x.addSensor(50, 50, 104);
        x.addSensor(50, 50, 209);
        A.due("15 -1", x.deathRound(-1), INVALID);
        A.due("15 3", x.deathRound(3), INVALID);
        A.due("15 alive", x.deathRound(0), NONE);
        x.setGenerator(ELECTS_NONE);
        x.run(1);
        x.setGenerator(58);
        A.due("15 first round", x.deathRound(1), 0);
        A.due("15 not yet", x.deathRound(2), NONE);
        x.setSetting(0, 2);
        x.setSetting(0, 8);
        x.setGenerator(7);
        x.run(1);
        A.due("15 no head in round 1", x.headCount(), 0);
        A.due("15 second round", x.deathRound(2), 1);
        A.due("15 stays", x.deathRound(1), 0);
        A.due("15 lives", x.deathRound(0), NONE);
    }

    private static void promise16And17HeadAndSlot() {
        ClusterField x = oneCluster(100000, 1000);
        A.due("16 -1", x.headOf(-1), INVALID);
        A.due("16 5", x.headOf(5), INVALID);
        A.due("17 -1", x.slotOf(-1), INVALID);
        A.due("17 5", x.slotOf(5), INVALID);
        A.due("16 no round yet", x.headOf(0), NONE);
        A.due("17 no round yet", x.slotOf(0), NONE);
        x.run(1);
        A.due("16 the head itself", x.headOf(0), 0);
        A.due("17 the head has none", x.slotOf(0), NONE);
        for (int n = 1; n < 5; n++) {
            A.due("16 member", x.headOf(n), 0);
            A.due("17 member", x.slotOf(n), n - 1);
        }
        x.addSensor(1, 1, 1000);
        A.due("16 added since", x.headOf(5), NONE);
        A.due("17 added since", x.slotOf(5), NONE);
        x.setSetting(0, 8);
        x.setGenerator(7);
        x.run(1);
        A.due("16 no heads now", x.headCount(), 0);
        for (int n = 0; n < 6; n++) {
            A.due("16 no cluster", x.headOf(n), NONE);
            A.due("17 no slot", x.slotOf(n), NONE);
        }
    }

    private static void promise18To21Totals() {
        ClusterField x = oneCluster(100000, 1000);
        x.run(1);
        int head = 2 + 4 * 6 + 1 + 105;
        int members = 6 + 6 + 5 + 6;
        A.due("18 heads", x.headCount(), 1);
        A.due("19 delivered", x.lastDelivered(), 5);
        A.due("20 total", x.deliveredTotal(), 5);
        A.due("21 paid", x.energyPaid(), head + members);
        x.setSetting(0, 8);
        x.setGenerator(7);
        x.run(1);
        // 1 and 3 are at distances 8100 and 10000, 2 and 4 at 10100.
        int direct = 105 + 86 + 106 + 105 + 106;
        A.due("18 no heads", x.headCount(), 0);
        A.due("19 delivered without heads", x.lastDelivered(), 5);
        A.due("20 total of two", x.deliveredTotal(), 10);
        A.due("21 paid in two", x.energyPaid(), head + members + direct);
        x.charge(0, 500);
        A.due("21 charging is not paying", x.energyPaid(), head + members + direct);
    }

    private static void promise22SendCost() {
        ClusterField x = new ClusterField();
        A.due("22 no sensor", x.sendCost(0, NONE), INVALID);
        x.addSensor(0, 0, 0);
        x.addSensor(99, 99, 0);
        x.addSensor(3, 14, 0);
        A.due("22 far", x.sendCost(0, 1), 5 + 19602 / 100);
        A.due("22 back", x.sendCost(1, 0), 5 + 19602 / 100);
        A.due("22 near", x.sendCost(0, 2), 5 + 205 / 100);
        A.due("22 base", x.sendCost(2, NONE), 5 + (47 * 47 + 136 * 136) / 100);
        A.due("22 same", x.sendCost(1, 1), INVALID);
        A.due("22 sensor -1", x.sendCost(-1, 0), INVALID);
        A.due("22 sensor 3", x.sendCost(3, NONE), INVALID);
        A.due("22 sensor NONE", x.sendCost(NONE, NONE), INVALID);
        A.due("22 target 3", x.sendCost(0, 3), INVALID);
        A.due("22 target -1", x.sendCost(0, -1), INVALID);
        A.due("22 target -10", x.sendCost(0, -10), INVALID);
        A.due("22 target greatest", x.sendCost(0, GREATEST_INT), INVALID);
        x.run(1);
        A.due("22 all dead", x.aliveCount(), 0);
        A.due("22 the dead too", x.sendCost(0, 1), 201);
        x.setSetting(2, 1);
        A.due("22 divisor 1", x.sendCost(0, 1), 19607);
        x.setSetting(2, 1000);
        x.setSetting(1, 50);
        A.due("22 divisor 1000, electronics 50", x.sendCost(0, 1), 69);
        x.moveBase(199, 199);
        x.setSetting(2, 1);
        A.due("22 farthest base", x.sendCost(0, NONE), 50 + 2 * 199 * 199);
    }

    private static void promise23ForecastDeath() {
        ClusterField x = lone(1000);
        A.due("23 -1", x.forecastDeath(-1, 1), INVALID);
        A.due("23 1", x.forecastDeath(1, 1), INVALID);
        A.due("23 rounds 0", x.forecastDeath(0, 0), INVALID);
        A.due("23 rounds 301", x.forecastDeath(0, 301), INVALID);
        A.due("23 least", x.forecastDeath(0, LEAST_INT), INVALID);
        // 1000 units: at most 108 and at least 105 a round, so the tenth round is the last.
        A.due("23 dies in round 9", x.forecastDeath(0, 300), 9);
        A.due("23 ten rounds", x.forecastDeath(0, 10), 9);
        A.due("23 nine rounds", x.forecastDeath(0, 9), NONE);
        A.due("23 one round", x.forecastDeath(0, 1), NONE);
        x.run(4);
        A.due("23 counted from round 0", x.forecastDeath(0, 300), 9);
        A.due("23 six rounds", x.forecastDeath(0, 6), 9);
        A.due("23 five rounds", x.forecastDeath(0, 5), NONE);
        x.run(50);
        A.due("23 as forecast", x.deathRound(0), 9);
        A.due("23 dead", x.forecastDeath(0, 300), ILLEGAL);
        A.due("23 dead, rounds 0", x.forecastDeath(0, 0), INVALID);

        // At the base, with nothing but electronics 1 to pay, a battery of 299 lasts for 299 rounds.
        ClusterField y = new ClusterField();
        y.addSensor(50, 99, 299);
        y.addSensor(50, 99, 300);
        y.moveBase(50, 99);
        y.setSetting(1, 1);
        y.setSetting(3, 0);
        y.setSetting(4, 0);
        ClusterField lonely = new ClusterField();
        lonely.addSensor(50, 99, 299);
        lonely.moveBase(50, 99);
        lonely.setSetting(1, 1);
        lonely.setSetting(3, 0);
        lonely.setSetting(4, 0);
        A.due("23 the 300th round", lonely.forecastDeath(0, 300), 299);
        A.due("23 299 rounds", lonely.forecastDeath(0, 299), NONE);
        lonely.charge(0, 1);
        A.due("23 after the 300th", lonely.forecastDeath(0, 300), NONE);
    }

    private static void promise24ForecastDelivered() {
        ClusterField x = new ClusterField();
        A.due("24 no sensors", x.forecastDelivered(1), 0);
        x.addSensor(50, 50, 1000);
        A.due("24 rounds 0", x.forecastDelivered(0), INVALID);
        A.due("24 rounds 301", x.forecastDelivered(301), INVALID);
        A.due("24 least", x.forecastDelivered(LEAST_INT), INVALID);
        A.due("24 one", x.forecastDelivered(1), 1);
        A.due("24 nine", x.forecastDelivered(9), 9);
        A.due("24 until it dies", x.forecastDelivered(300), 9);
        x.run(4);
        A.due("24 only the rounds of the forecast", x.forecastDelivered(300), 5);
        int[] before = Answers.told(x);
        x.forecastDelivered(300);
        x.forecastDeath(0, 300);
        A.same("24 forecasts", Answers.told(x), before);
        A.due("24 no round", x.roundNumber(), 4);
        A.due("24 nothing saved", x.undoDepth(), 2);
        x.run(50);
        A.due("24 none alive", x.forecastDelivered(300), 0);
        A.due("24 none alive, rounds 0", x.forecastDelivered(0), INVALID);
    }

    private static void promise25And26Undo() {
        ClusterField x = new ClusterField();
        A.due("25 nothing", x.undo(), ILLEGAL);
        A.due("26 nothing", x.undoDepth(), 0);
        x.addSensor(50, 50, 1000);
        x.moveBase(50, 149);
        x.setSetting(3, 2);
        x.setGenerator(ELECTS_FIRST);
        x.charge(0, 11);
        A.due("26 five", x.undoDepth(), 5);
        x.run(3);
        A.due("26 six", x.undoDepth(), 6);
        A.due("25 run", x.undo(), 5);
        A.due("25 round", x.roundNumber(), 0);
        A.due("25 paid", x.energyPaid(), 0);
        A.due("25 heads", x.headCount(), 0);
        A.due("25 head", x.headOf(0), NONE);
        A.due("25 battery", x.battery(0), 1011);
        // The generator is part of the state: the undone rounds come out the same again.
        int[] forecast = Answers.told(x);
        x.run(3);
        x.undo();
        A.same("25 run and undo", Answers.told(x), forecast);
        x.run(1);
        A.due("25 elected again", x.headOf(0), 0);
        A.due("25 undo again", x.undo(), 5);
        A.due("25 charge", x.undo(), 4);
        A.due("25 uncharged", x.battery(0), 1000);
        A.due("25 generator", x.undo(), 3);
        x.run(1);
        A.due("25 first generator does not elect", x.headCount(), 0);
        x.undo();
        A.due("25 setting", x.undo(), 2);
        A.due("25 setting is back", x.setSetting(3, 1), ILLEGAL);
        A.due("25 base", x.undo(), 1);
        A.due("25 base is back", x.sendCost(0, NONE), 105);
        A.due("25 sensor", x.undo(), 0);
        A.due("25 no sensor", x.sensorCount(), 0);
        A.due("25 nothing more", x.undo(), ILLEGAL);

        ClusterField y = new ClusterField();
        for (int n = 0; n < 8; n++) {
            y.addSensor(n, n, n);
            A.due("26 at most six", y.undoDepth(), Math.min(n + 1, 6));
        }
        for (int n = 5; n >= 0; n--) {
            A.due("25 one by one", y.undo(), n);
            A.due("25 sensors left", y.sensorCount(), n + 2);
        }
        A.due("25 the oldest are gone", y.undo(), ILLEGAL);
        A.due("26 none left", y.undoDepth(), 0);
        A.due("25 two are left", y.sensorCount(), 2);
        y.addSensor(9, 9, 9);
        A.due("26 anew", y.undoDepth(), 1);
        A.due("25 anew", y.undo(), 0);
        A.due("25 two again", y.sensorCount(), 2);

        ClusterField z = lone(0);
        z.run(1);
        A.due("25 dead", z.isAlive(0), 0);
        A.due("25 undo of death", z.undo(), 1);
        A.due("25 alive", z.isAlive(0), 1);
        A.due("25 no death", z.deathRound(0), NONE);
    }

    private static void promise27And28Snapshots() {
        ClusterField x = new ClusterField();
        A.due("27 -1", x.save(-1), INVALID);
        A.due("27 2", x.save(2), INVALID);
        A.due("27 least", x.save(LEAST_INT), INVALID);
        A.due("28 -1", x.restore(-1), INVALID);
        A.due("28 2", x.restore(2), INVALID);
        A.due("28 greatest", x.restore(GREATEST_INT), INVALID);
        A.due("28 empty 0", x.restore(0), ILLEGAL);
        A.due("28 empty 1", x.restore(1), ILLEGAL);
        A.due("27 empty network", x.save(1), 0);
        A.due("28 other is empty", x.restore(0), ILLEGAL);
        A.due("26 saving is not undone", x.undoDepth(), 0);
        x.addSensor(50, 50, 100000);
        x.addSensor(50, 60, 1000);
        x.setGenerator(ELECTS_FIRST);
        x.run(2);
        A.due("27 two", x.save(0), 2);
        A.due("26 four", x.undoDepth(), 4);
        int[] saved = Answers.told(x);
        A.due("25 undo keeps snapshots", x.undo(), 3);
        x.moveBase(1, 2);
        x.setSetting(0, 8);
        x.setSetting(5, 1);
        x.charge(0, 1);
        x.addSensor(7, 7, 7);
        x.run(20);
        A.due("28 sensors afterwards", x.restore(0), 2);
        A.due("28 nothing to undo", x.undoDepth(), 0);
        A.due("28 undo", x.undo(), ILLEGAL);
        saved[6] = 0;  // the number of saved states
        A.same("28 the saved state", Answers.told(x), saved);
        A.due("28 setting", x.setSetting(0, 4), ILLEGAL);
        A.due("28 base", x.moveBase(50, 150), 10150);
        x.undo();
        int delivered = x.deliveredTotal();
        x.run(10);
        A.due("28 kept", x.restore(0), 2);
        A.due("28 again", x.deliveredTotal(), delivered);
        A.due("28 the empty network", x.restore(1), 0);
        A.due("28 no sensors", x.sensorCount(), 0);
        A.due("28 first base", x.moveBase(0, 0), 10150);
        A.due("27 over an old one", x.save(0), 0);
        x.addSensor(1, 1, 1);
        A.due("28 the new one", x.restore(0), 0);
        A.due("28 its base", x.moveBase(0, 0), 0);
        A.due("28 slot 1 is still kept", x.restore(1), 0);
        A.due("28 its first base", x.moveBase(0, 0), 10150);
    }

    private static void election() {
        // State 9 draws 472 155 119. With cycle 4 a draw of 250 does not elect in phase 0, one of 249 does.
        ClusterField x = lone(100000);
        x.setGenerator(firstStateDrawing(250));
        x.run(1);
        A.due("election 250", x.headCount(), 0);
        x.undo();
        x.setGenerator(firstStateDrawing(249));
        x.run(1);
        A.due("election 249", x.headCount(), 1);
        // Phase 1: 3 times 333 is less than 1000, 3 times 334 is not.
        ClusterField y = lone(100000);
        y.setGenerator(ELECTS_NONE);
        y.run(1);
        y.setGenerator(firstStateDrawing(334));
        y.run(1);
        A.due("election 334 in phase 1", y.headCount(), 0);
        y.undo();
        y.setGenerator(firstStateDrawing(333));
        y.run(1);
        A.due("election 333 in phase 1", y.headCount(), 1);
        // Phase 3 of 4: even a draw of 999 elects.
        ClusterField z = lone(100000);
        for (int n = 0; n < 3; n++) {
            z.setGenerator(ELECTS_NONE);
            z.setGenerator(firstStateDrawing(999));
            z.run(1);
            A.due("election 999", z.headCount(), 0);
        }
        z.setGenerator(firstStateDrawing(999));
        z.run(1);
        A.due("election 999 in phase 3", z.headCount(), 1);
        // The dead and the ineligible draw nothing: the next sensor gets their draw, 177.
        ClusterField w = new ClusterField();
        w.addSensor(50, 50, 0);
        w.addSensor(50, 50, 1000);
        w.addSensor(50, 50, 1000);
        w.setGenerator(firstStateDrawing(249));
        w.run(1);
        w.setGenerator(ELECTS_FIRST);
        int second = w.headOf(1) == 1 ? 2 : 1;
        w.run(1);
        A.due("election after the dead", w.headOf(second), second);
    }

    private static int firstStateDrawing(int wanted) {
        for (long state = 0; state < 1000000; state++) {
            long next = (state * 1103515245L + 12345L) % 2147483648L;
            if (next / 65536 % 1000 == wanted) {
                return (int) state;
            }
        }
        return -1;
    }

    private static void announcement() {
        ClusterField x = oneCluster(1, 1000);
        x.run(1);
        A.due("announcement heads", x.headCount(), 0);
        A.due("announcement dead", x.isAlive(0), 0);
        A.due("announcement unpaid", x.battery(0), 1);
        A.due("announcement no head", x.headRounds(0), 0);
        A.due("announcement no cluster", x.headOf(0), NONE);
        A.due("announcement delivered", x.lastDelivered(), 4);
        A.due("announcement paid", x.energyPaid(), 86 + 106 + 105 + 106);
    }

    private static void joining() {
        ClusterField x = new ClusterField();
        x.addSensor(10, 10, 10000);
        x.addSensor(30, 10, 10000);
        x.addSensor(20, 10, 10000);
        x.addSensor(29, 10, 10000);
        x.addSensor(11, 10, 10000);
        x.setGenerator(ELECTS_TWO);
        x.run(1);
        A.due("joining heads", x.headCount(), 2);
        A.due("joining head 0", x.headOf(0), 0);
        A.due("joining head 1", x.headOf(1), 1);
        A.due("joining tie", x.headOf(2), 0);
        A.due("joining near 1", x.headOf(3), 1);
        A.due("joining near 0", x.headOf(4), 0);
        A.due("joining slot of 2", x.slotOf(2), 0);
        A.due("joining slot of 3", x.slotOf(3), 0);
        A.due("joining slot of 4", x.slotOf(4), 1);
        A.due("joining slot of head 1", x.slotOf(1), NONE);
        A.due("joining delivered", x.lastDelivered(), 5);

        // The first state elects 2 alone of three: both sensors before it join it.
        ClusterField y = new ClusterField();
        y.addSensor(50, 50, 1000);
        y.addSensor(50, 60, 1000);
        y.addSensor(50, 70, 1000);
        y.run(1);
        A.due("joining 0 to 2", y.headOf(0), 2);
        A.due("joining 1 to 2", y.headOf(1), 2);
        A.due("joining slot of 0", y.slotOf(0), 0);
        A.due("joining slot of 1", y.slotOf(1), 1);
        A.due("joining 0 sent", y.battery(0), 1000 - 9);
        A.due("joining 1 sent", y.battery(1), 1000 - 6);
        A.due("joining 2 received both", y.battery(2), 1000 - 2 - 12 - 1 - 69);
    }

    private static void reportingToHeads() {
        // The head has 9 units after announcing: it receives once, and dies of the second message.
        ClusterField x = oneCluster(11, 1000);
        x.run(1);
        A.due("reporting head dies", x.deathRound(0), 0);
        A.due("reporting head keeps", x.battery(0), 3);
        A.due("reporting was head", x.headRounds(0), 1);
        A.due("reporting counts as head", x.headCount(), 1);
        A.due("reporting 1 sent", x.battery(1), 994);
        A.due("reporting 2 sent", x.battery(2), 994);
        A.due("reporting 3 sent to the dead", x.battery(3), 995);
        A.due("reporting 4 sent to the dead", x.battery(4), 994);
        A.due("reporting still its head", x.headOf(4), 0);
        A.due("reporting the head itself", x.headOf(0), 0);
        A.due("reporting nothing delivered", x.lastDelivered(), 0);
        A.due("reporting paid", x.energyPaid(), 2 + 6 + 6 + 6 + 5 + 6);
        // It pays for receiving, but not for aggregating.
        ClusterField y = oneCluster(7, 1000);
        y.run(1);
        A.due("reporting received", y.battery(0), 0);
        A.due("reporting not aggregated", y.isAlive(0), 0);
        A.due("reporting paid for receiving", y.energyPaid(), 2 + 5 + 6 + 6 + 5 + 6);
        // A member that cannot pay dies, keeps its slot, and costs its head nothing.
        ClusterField z = oneCluster(1000, 5);
        z.run(1);
        A.due("reporting member dies", z.deathRound(1), 0);
        A.due("reporting member keeps", z.battery(1), 5);
        A.due("reporting member's head", z.headOf(1), 0);
        A.due("reporting member's slot", z.slotOf(1), 0);
        A.due("reporting next slot", z.slotOf(2), 1);
        A.due("reporting the head paid", z.battery(0), 1000 - 2 - 3 * 6 - 1 - 105);
        A.due("reporting four delivered", z.lastDelivered(), 4);
        z.run(1);
        A.due("reporting the dead join nothing", z.headOf(1), NONE);
        A.due("reporting the dead have no slot", z.slotOf(1), NONE);
    }

    private static void forwarding() {
        ClusterField x = oneCluster(26, 1000);
        x.run(1);
        A.due("forwarding dies", x.isAlive(0), 0);
        A.due("forwarding keeps", x.battery(0), 0);
        A.due("forwarding loses all", x.lastDelivered(), 0);
        // With nothing to pay for aggregating, it lives on until the delivery.
        ClusterField y = oneCluster(27, 1000);
        y.run(1);
        A.due("delivery dies", y.isAlive(0), 0);
        A.due("delivery left", y.battery(0), 0);
        A.due("delivery paid", y.energyPaid(), 27 + 23);
    }

    private static void directDelivery() {
        ClusterField x = oneCluster(131, 1000);
        x.run(1);
        A.due("direct dies", x.isAlive(0), 0);
        A.due("direct keeps", x.battery(0), 104);
        A.due("direct loses all", x.lastDelivered(), 0);
        ClusterField y = oneCluster(132, 1000);
        y.run(1);
        A.due("direct lives", y.isAlive(0), 1);
        A.due("direct spends", y.battery(0), 0);
        A.due("direct delivers", y.lastDelivered(), 5);
        // Two heads: the second delivers though the first dies.
        ClusterField z = new ClusterField();
        z.addSensor(50, 50, 107);
        z.addSensor(50, 60, 1000);
        z.addSensor(50, 61, 1000);
        z.setGenerator(ELECTS_TWO);
        z.run(1);
        A.due("direct first head dies", z.battery(0), 104);
        A.due("direct second head", z.battery(1), 1000 - 2 - 6 - 1 - 86);
        A.due("direct second head delivers", z.lastDelivered(), 2);
    }

    private static void relayDelivery() {
        ClusterField x = relayNetwork(1000, 1000, 1000);
        x.run(1);
        A.due("relay heads", x.headCount(), 3);
        A.due("relay first", x.battery(0), 1000 - 2 - 6 - 1 - 9);
        A.due("relay itself", x.battery(1), 1000 - 2 - 1 - 12 - 86);
        A.due("relay third", x.battery(2), 1000 - 2 - 1 - 6);
        A.due("relay member", x.battery(3), 995);
        A.due("relay delivered", x.lastDelivered(), 4);
        A.due("relay paid", x.energyPaid(), 18 + 101 + 9 + 5);
        // The relay dies of the first message; the third head still pays for sending.
        ClusterField y = relayNetwork(1000, 7, 1000);
        y.run(1);
        A.due("relay dead of the first", y.battery(1), 4);
        A.due("relay third sends to the dead", y.battery(2), 991);
        A.due("relay delivers nothing", y.lastDelivered(), 0);
        A.due("relay others live", y.aliveCount(), 3);
        // It receives the first message and cannot aggregate it.
        ClusterField a = relayNetwork(1000, 8, 1000);
        a.run(1);
        A.due("relay received", a.battery(1), 0);
        A.due("relay did not aggregate", a.isAlive(1), 0);
        A.due("relay loses what it aggregated not", a.lastDelivered(), 0);
        // It dies of the second message and loses the first.
        ClusterField b = relayNetwork(1000, 13, 1000);
        b.run(1);
        A.due("relay dead of the second", b.battery(1), 4);
        A.due("relay loses the first", b.lastDelivered(), 0);
        // It dies of sending to the base.
        ClusterField c = relayNetwork(1000, 100, 1000);
        c.run(1);
        A.due("relay dead at last", c.battery(1), 85);
        A.due("relay loses all", c.lastDelivered(), 0);
        ClusterField d = relayNetwork(1000, 101, 1000);
        d.run(1);
        A.due("relay just pays", d.battery(1), 0);
        A.due("relay delivers all", d.lastDelivered(), 4);
        // The first head cannot pay for sending to the relay.
        ClusterField e = relayNetwork(17, 1000, 1000);
        e.run(1);
        A.due("relay sender dies", e.battery(0), 8);
        A.due("relay without it", e.battery(1), 1000 - 2 - 1 - 6 - 86);
        A.due("relay delivers two", e.lastDelivered(), 2);
        // The first head is dead before: it sends nothing.
        ClusterField f = relayNetwork(8, 1000, 1000);
        f.run(1);
        A.due("relay sender dead before", f.battery(0), 0);
        A.due("relay delivers the two others", f.lastDelivered(), 2);
    }

    private static void relayChoice() {
        // Heads 0 and 1 are as far from the base: 0 is the relay.
        ClusterField x = new ClusterField();
        x.addSensor(40, 50, 1000);
        x.addSensor(60, 50, 1000);
        x.setSetting(5, 1);
        x.setGenerator(ELECTS_TWO);
        x.run(1);
        A.due("choice relay 0", x.battery(0), 1000 - 2 - 1 - 6 - 106);
        A.due("choice sender 1", x.battery(1), 1000 - 2 - 1 - 9);
        A.due("choice delivered", x.lastDelivered(), 2);
        // The nearer head dies before the delivery: the other is the relay, and alone.
        ClusterField y = new ClusterField();
        y.addSensor(50, 40, 1000);
        y.addSensor(50, 60, 2);
        y.setSetting(5, 1);
        y.setGenerator(ELECTS_TWO);
        y.run(1);
        A.due("choice dead", y.isAlive(1), 0);
        A.due("choice relay alone", y.battery(0), 1000 - 2 - 1 - (5 + 121));
        A.due("choice delivers its own", y.lastDelivered(), 1);
        // No head is left for the delivery.
        ClusterField z = new ClusterField();
        z.addSensor(50, 40, 2);
        z.addSensor(50, 60, 2);
        z.addSensor(50, 99, 1000);
        z.setSetting(5, 1);
        z.setGenerator(ELECTS_TWO);
        z.run(1);
        A.due("choice none", z.lastDelivered(), 0);
        A.due("choice heads", z.headCount(), 2);
        A.due("choice the member lives", z.aliveCount(), 1);
        A.due("choice the member sent to its head only", z.battery(2), 1000 - (5 + 39 * 39 / 100));
    }

    private static void roundWithoutHeads() {
        ClusterField x = new ClusterField();
        x.addSensor(50, 50, 105);
        x.addSensor(50, 60, 85);
        x.addSensor(50, 70, 1000);
        x.setSetting(5, 1);
        x.setGenerator(ELECTS_NONE);
        x.run(1);
        A.due("headless heads", x.headCount(), 0);
        A.due("headless delivered", x.lastDelivered(), 2);
        A.due("headless just pays", x.battery(0), 0);
        A.due("headless alive", x.isAlive(0), 1);
        A.due("headless dies", x.isAlive(1), 0);
        A.due("headless keeps", x.battery(1), 85);
        A.due("headless third", x.battery(2), 1000 - 69);
        A.due("headless paid", x.energyPaid(), 105 + 69);
    }

    private static void documentExamples() {
        ClusterField x = new ClusterField();
        A.due("example 1 addSensor", x.addSensor(50, 50, 100), 0);
        A.due("example 1 sendCost", x.sendCost(0, -9), 105);
        A.due("example 1 run", x.run(1), 1);
        A.due("example 1 headCount", x.headCount(), 0);
        A.due("example 1 lastDelivered", x.lastDelivered(), 0);
        A.due("example 1 battery", x.battery(0), 100);
        A.due("example 1 energyPaid", x.energyPaid(), 0);

        x = new ClusterField();
        A.due("example 2 addSensor", x.addSensor(0, 0, 0), 0);
        A.due("example 2 run", x.run(1), 1);
        A.due("example 2 aliveCount", x.aliveCount(), 0);
        A.due("example 2 deathRound", x.deathRound(0), 0);
        A.due("example 2 run again", x.run(1), -2);
        A.due("example 2 undo", x.undo(), 1);
        A.due("example 2 isAlive", x.isAlive(0), 1);

        x = new ClusterField();
        A.due("example 3 addSensor 0", x.addSensor(10, 10, 500), 0);
        A.due("example 3 addSensor 1", x.addSensor(20, 20, 500), 1);
        A.due("example 3 sendCost", x.sendCost(0, 1), 7);
        A.due("example 3 setSetting 4", x.setSetting(0, 4), -2);
        A.due("example 3 setSetting 2", x.setSetting(0, 2), 4);
        A.due("example 3 run", x.run(2), 2);
        A.due("example 3 headRounds 0", x.headRounds(0), 1);
        A.due("example 3 headRounds 1", x.headRounds(1), 1);
        A.due("example 3 roundNumber", x.roundNumber(), 2);

        x = new ClusterField();
        A.due("example 4 addSensor", x.addSensor(10, 10, 500), 0);
        A.due("example 4 forecastDelivered", x.forecastDelivered(20), 2);
        A.due("example 4 forecastDeath", x.forecastDeath(0, 300), 2);
        A.due("example 4 run", x.run(20), 3);
        A.due("example 4 deliveredTotal", x.deliveredTotal(), 2);
    }

    // Each wrong call is made on an object of its own, for an object is promised 512 calls only.
    private static void errorsChangeNothing() {
        int[] before = Answers.told(spent());
        int[] wrong = {LEAST_INT, -10, -9, -1, 12, 200, 301, 100001, GREATEST_INT};
        for (int w : wrong) {
            wrongSensorOrSlot(w, before);
            for (int setting = 0; setting < 6; setting++) {
                if (w < 0 || w > 1000) {
                    ClusterField x = spent();
                    unchanged(x, "setSetting", x.setSetting(setting, w), INVALID, before);
                }
            }
            if (w < 0 || w > 199) {
                wrongPositionOrRounds(w, before);
            }
        }
        ClusterField x = spent();
        unchanged(x, "addSensor to a full network", x.addSensor(1, 1, 1), FULL, before);
        x = spent();
        unchanged(x, "setSetting to the same", x.setSetting(0, 4), ILLEGAL, before);
        x = spent();
        unchanged(x, "charge of the dead", x.charge(3, 1), ILLEGAL, before);
        x = spent();
        unchanged(x, "forecast of the dead", x.forecastDeath(3, 1), ILLEGAL, before);
        x = spent();
        unchanged(x, "restore of an empty slot", x.restore(1), ILLEGAL, before);
        ClusterField y = spent();
        y.restore(0);
        int[] restored = Answers.told(y);
        x = spent();
        x.restore(0);
        unchanged(x, "undo of nothing", x.undo(), ILLEGAL, restored);
    }

    private static ClusterField spent() {
        ClusterField x = new ClusterField();
        for (int n = 0; n < 12; n++) {
            x.addSensor(8 * n, 99 - 7 * n, n == 3 ? 0 : 1000);
        }
        x.run(2);
        x.save(0);
        x.run(1);
        return x;
    }

    private static void wrongSensorOrSlot(int w, int[] before) {
        ClusterField x = spent();
        unchanged(x, "charge", x.charge(w, 1), INVALID, before);
        x = spent();
        unchanged(x, "setSetting", x.setSetting(w, 1), INVALID, before);
        x = spent();
        unchanged(x, "sendCost", x.sendCost(w, 1), INVALID, before);
        x = spent();
        unchanged(x, "forecastDeath", x.forecastDeath(w, 1), INVALID, before);
        x = spent();
        unchanged(x, "save", x.save(w), INVALID, before);
        x = spent();
        unchanged(x, "restore", x.restore(w), INVALID, before);
    }

    private static void wrongPositionOrRounds(int w, int[] before) {
        ClusterField x = spent();
        unchanged(x, "addSensor", x.addSensor(w, 1, 1), INVALID, before);
        x = spent();
        unchanged(x, "addSensor", x.addSensor(1, w, 1), INVALID, before);
        x = spent();
        unchanged(x, "moveBase", x.moveBase(w, 1), INVALID, before);
        x = spent();
        unchanged(x, "moveBase", x.moveBase(1, w), INVALID, before);
        x = spent();
        unchanged(x, "run", x.run(w), INVALID, before);
        if (w < 0 || w > 300) {
            x = spent();
            unchanged(x, "forecastDelivered", x.forecastDelivered(w), INVALID, before);
            x = spent();
            unchanged(x, "forecastDeath", x.forecastDeath(0, w), INVALID, before);
        }
        if (w < 0 || w > 100000) {
            x = spent();
            unchanged(x, "addSensor", x.addSensor(1, 1, w), INVALID, before);
            x = spent();
            unchanged(x, "charge", x.charge(0, w), INVALID, before);
        }
        if (w < 0) {
            x = spent();
            unchanged(x, "setGenerator", x.setGenerator(w), INVALID, before);
        }
    }

    private static void unchanged(ClusterField x, String call, int got, int want, int[] before) {
        A.due(call, got, want);
        A.same("after " + call, Answers.told(x), before);
    }
}
