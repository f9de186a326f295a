/** Edges of 'Rounds', a test for each sentence that names one. */
final class RoundEdges {
    private static final int INVALID = -1;
    private static final int ILLEGAL = -2;
    private static final int NONE = -9;
    private static final String ALL_OF_TWELVE = "111111111111";

    private final Answers a;

    RoundEdges(Answers answers) {
        a = answers;
    }

    void run() {
        a.each(
            this::firstRound,
            this::phasesOfEachCycle,
            this::newCycleMakesEligible,
            this::ineligibleUntilTheNewCycle,
            this::changedCycleKeepsEligibility,
            this::changedCycleChangesPhases,
            this::orderOfDraws,
            this::deadDrawNothing,
            this::ineligibleDrawNothing,
            this::nobodyDraws,
            this::greatestNumbersThatElect,
            this::announcementPaid,
            this::headIsNotEligible,
            this::announcementUnpaid,
            this::oneOfTwoAnnouncements,
            this::nearestHead,
            this::nearestByOne,
            this::smallestNumberOfSeveral,
            this::deadJoinNothing,
            this::headIsAMember,
            this::slotsOfAFullCluster,
            this::slotsOfTwoClusters,
            this::nobodyLeftToJoin,
            this::noHeadNoCluster,
            this::memberPaysItsLastUnits,
            this::memberCannotPay,
            this::headCannotReceive,
            this::headCannotAggregate,
            this::readingIsWithTheHead,
            this::deadHeadIsSentTo,
            this::deadHeadReceivesNothing,
            this::ownReading,
            this::headDiesOfItsOwnReading,
            this::deadHeadAggregatesNothing,
            this::directDelivery,
            this::directDeliveryByEachHead,
            this::relayIsTheNearest,
            this::relayIsTheFirstOfSeveral,
            this::deadHeadIsNoRelay,
            this::relayAlone,
            this::senderToTheRelay,
            this::relayCannotReceive,
            this::relayCannotAggregate,
            this::readingsMoveToTheRelay,
            this::deadRelayIsSentTo,
            this::deadRelayReceivesNothing,
            this::relayDelivery,
            this::relayOfAllTwelve,
            this::noHeadLeftToDeliver,
            this::noHeadAfterAnnouncing,
            this::deadSendNothingToTheBase,
            this::noHeadAndLastUnits,
            this::headsThatDieLater,
            this::nextNumber,
            this::noRoundWithoutTheLiving);
    }

    private static ClusterField relayAtBase(int... batteries) {
        ClusterField x = Networks.atBase(batteries);
        x.setSetting(5, 1);
        return x;
    }

    private static ClusterField at(int... coordinates) {
        ClusterField x = new ClusterField();
        for (int n = 0; n + 1 < coordinates.length; n += 2) {
            x.addSensor(coordinates[n], coordinates[n + 1], 10000);
        }
        return x;
    }

    private void firstRound() {
        a.holds(8, "Rounds", "Rounds are numbered from 0");
        ClusterField x = Networks.atBase(4);
        a.due("number of the first", x.roundNumber(), 0);
        Networks.runOne(x, "0");
        a.due("died in the first", x.deathRound(0), 0);
    }

    // A draw of 999 elects in the last phase alone.
    private void phasesOfEachCycle() {
        a.holds(7, "Rounds", "The phase of a round is its number modulo the cycle setting");
        for (int cycle = 2; cycle <= 8; cycle++) {
            ClusterField x = Networks.atBase(10000);
            x.setSetting(0, cycle);
            for (int round = 0; round < 3 * cycle; round++) {
                x.setGenerator(Draws.drawing(999));
                x.run(1);
                a.due("heads so far, round " + round + ", cycle " + cycle, x.headRounds(0), (round + 1) / cycle);
            }
        }
    }

    private void newCycleMakesEligible() {
        a.holds(13, "Rounds", "A round with phase 0 begins with all sensors being eligible");
        ClusterField x = Networks.atBase(10000);
        for (int round = 0; round < 4; round++) {
            x.setGenerator(Draws.drawing(999));
            x.run(1);
        }
        a.due("head in the last phase", x.headRounds(0), 1);
        a.due("eligible in the next round", x.isEligible(0), 1);
        x.setGenerator(Draws.drawing(0));
        x.run(1);
        a.due("head twice running", x.headRounds(0), 2);
        a.due("ineligible in phase 1", x.isEligible(0), 0);
    }

    private void ineligibleUntilTheNewCycle() {
        a.holds(13, "Rounds", "a sensor that has announced itself as a head stays ineligible until the next round "
                + "with phase 0");
        for (int cycle = 2; cycle <= 8; cycle++) {
            ClusterField x = Networks.atBase(10000);
            x.setSetting(0, cycle);
            for (int round = 0; round < cycle; round++) {
                a.due("before round " + round + " of " + cycle, x.isEligible(0), round == 0 ? 1 : 0);
                x.setGenerator(Draws.drawing(0));
                x.run(1);
                a.due("head but once, round " + round + " of " + cycle, x.headRounds(0), 1);
            }
            a.due("before round " + cycle + " of " + cycle, x.isEligible(0), 1);
            x.setGenerator(Draws.drawing(0));
            x.run(1);
            a.due("head again, cycle " + cycle, x.headRounds(0), 2);
        }
    }

    private void changedCycleKeepsEligibility() {
        a.holds(13, "Rounds", "(When the cycle setting changes, eligibility does not change");
        ClusterField x = Networks.runOne(Networks.atBase(10000, 10000), "10");
        x.run(2);
        x.setSetting(0, 3);
        a.due("round 3 would have phase 0", x.isEligible(0), 1);
        x.setSetting(0, 4);
        a.due("but was not performed", x.isEligible(0), 0);
        x.setGenerator(Draws.drawing(0));
        x.run(1);
        a.due("no head in round 3", x.headRounds(0), 1);
        x.undo();
        x.setSetting(0, 3);
        x.setGenerator(Draws.drawing(999));
        x.run(1);
        x.setSetting(0, 8);
        a.due("round 3 with phase 0 was performed", x.isEligible(0), 1);
        a.due("it was no head in round 3", x.headRounds(0), 1);
    }

    private void changedCycleChangesPhases() {
        a.holds(4, "Rounds", "but the phases of later rounds do.)");
        ClusterField x = Networks.runOne(Networks.atBase(10000, 10000), "10");
        x.setGenerator(Draws.drawing(999));
        x.run(1);
        a.due("phase 1 of 4", x.headRounds(1), 0);
        x.setGenerator(Draws.drawing(999));
        x.run(1);
        a.due("phase 2 of 4", x.headRounds(1), 0);
        x.undo();
        x.setSetting(0, 3);
        x.run(1);
        a.due("phase 2 of 3", x.headRounds(1), 1);
        ClusterField y = Networks.atBase(10000);
        y.run(4);
        y.setSetting(0, 5);
        y.addSensor(50, 50, 10000);
        y.setGenerator(Draws.drawing(999));
        y.run(1);
        a.due("round 4 has phase 4 of 5", y.headRounds(1), 1);
    }

    private void orderOfDraws() {
        a.holds(7, "Rounds", "1. Election: in ascending order of their numbers, each sensor that is alive and "
                + "eligible makes a draw");
        String[] patterns = {"100", "010", "001", "110", "101", "011", "111", "000"};
        for (String pattern : patterns) {
            ClusterField x = Networks.runOne(Networks.atBase(1000, 1000, 1000), pattern);
            for (int n = 0; n < 3; n++) {
                a.due("sensor " + n + " of " + pattern, x.headRounds(n), pattern.charAt(n) - '0');
            }
        }
    }

    private void deadDrawNothing() {
        a.holds(7, "Rounds", "each sensor that is alive and eligible makes a draw");
        ClusterField x = Networks.runOne(Networks.atBase(4, 1000, 1000), "000");
        Networks.elect(x, 3, "10").run(1);
        a.due("the first draw is that of 1", x.headRounds(1), 1);
        a.due("the second that of 2", x.headRounds(2), 0);
        a.due("the dead one is no head", x.headRounds(0), 0);
    }

    private void ineligibleDrawNothing() {
        a.holds(7, "Rounds", "1. Election: in ascending order of their numbers, each sensor that is alive and "
                + "eligible makes a draw");
        ClusterField x = Networks.runOne(Networks.atBase(1000, 1000, 1000), "100");
        Networks.elect(x, 3, "10").run(1);
        a.due("the first draw is that of 1", x.headRounds(1), 1);
        a.due("the second that of 2", x.headRounds(2), 0);
        a.due("the ineligible one is no head again", x.headRounds(0), 1);
    }

    private void nobodyDraws() {
        a.holds(5, "Rounds", "each sensor that is alive and eligible makes a draw");
        ClusterField x = Networks.runOne(Networks.atBase(1000, 1000), "11");
        Networks.elect(x, "10").run(3);
        a.due("no head without a draw", x.headCount(), 0);
        x.run(1);
        a.due("0 has the first draw of the new cycle", x.headOf(0), 0);
        a.due("1 has the second", x.headOf(1), 0);
    }

    private void greatestNumbersThatElect() {
        a.holds(7, "Rounds", "If the drawn number times (cycle - phase) is less than 1000, the sensor is elected");
        int[] greatest = {499, 333, 249, 199, 166, 142, 124};
        for (int cycle = 2; cycle <= 8; cycle++) {
            int number = greatest[cycle - 2];
            a.due("0 times " + cycle, headsOf(cycle, 0, 0), 1);
            a.due(number + " times " + cycle, headsOf(cycle, 0, number), 1);
            a.due(number + 1 + " times " + cycle, headsOf(cycle, 0, number + 1), 0);
        }
        for (int phase = 1; phase <= 6; phase++) {
            int number = greatest[8 - phase - 2];
            a.due(number + " in phase " + phase, headsOf(8, phase, number), 1);
            a.due(number + 1 + " in phase " + phase, headsOf(8, phase, number + 1), 0);
        }
        a.due("999 times 1", headsOf(2, 1, 999), 1);
        a.due("0 times 1", headsOf(8, 7, 0), 1);
    }

    // The heads of the round with this phase, if its draw is the given number and there was no head before.
    private static int headsOf(int cycle, int phase, int number) {
        ClusterField x = Networks.atBase(1000);
        x.setSetting(0, cycle);
        for (int round = 0; round < phase; round++) {
            x.setGenerator(Draws.drawing(999));
            x.run(1);
        }
        x.setGenerator(Draws.drawing(number));
        x.run(1);
        return x.headCount();
    }

    private void announcementPaid() {
        a.holds(7, "Rounds", "2. Announcement: in ascending order, each elected sensor pays for announcing itself. "
                + "If it pays, it is a head in this round");
        ClusterField x = Networks.runOne(Networks.atBase(2), "1");
        a.due("head", x.headOf(0), 0);
        a.due("heads", x.headCount(), 1);
        a.due("rounds as head", x.headRounds(0), 1);
        a.due("nothing left", x.battery(0), 0);
        ClusterField y = Networks.atBase(50);
        y.setSetting(4, 50);
        Networks.runOne(y, "1");
        a.due("head for 50", y.headRounds(0), 1);
    }

    private void headIsNotEligible() {
        a.holds(13, "Rounds", "If it pays, it is a head in this round, and is not eligible any more");
        ClusterField x = Networks.runOne(Networks.atBase(1000, 1000), "10");
        a.due("the head", x.isEligible(0), 0);
        a.due("its member", x.isEligible(1), 1);
    }

    private void announcementUnpaid() {
        a.holds(14, "Rounds", "If it dies, it is no head");
        ClusterField x = Networks.runOne(Networks.atBase(1), "1");
        a.due("dead", x.isAlive(0), 0);
        a.due("no head", x.headOf(0), NONE);
        a.due("heads", x.headCount(), 0);
        a.due("rounds as head", x.headRounds(0), 0);
        a.due("unpaid", x.battery(0), 1);
        ClusterField y = Networks.atBase(49);
        y.setSetting(4, 50);
        Networks.runOne(y, "1");
        a.due("no head for 49", y.headRounds(0), 0);
        a.due("49 are kept", y.battery(0), 49);
    }

    private void oneOfTwoAnnouncements() {
        a.holds(16, "Rounds", "If it dies, it is no head");
        ClusterField x = Networks.runOne(Networks.atBase(1, 1000, 1000), "110");
        a.due("heads", x.headCount(), 1);
        a.due("the dead one joins nothing", x.headOf(0), NONE);
        a.due("and has no slot", x.slotOf(0), NONE);
        a.due("the other one's member", x.headOf(2), 1);
        a.due("in its first slot", x.slotOf(2), 0);
    }

    private void nearestHead() {
        a.holds(16, "Rounds", "3. Joining: each sensor that is alive and no head joins the head with the smallest "
                + "distance");
        ClusterField x = Networks.runOne(at(0, 0, 99, 99, 0, 0, 99, 99), "1100");
        a.due("at the first head's place", x.headOf(2), 0);
        a.due("at the second head's place", x.headOf(3), 1);
        ClusterField y = Networks.runOne(at(99, 99, 0, 0, 0, 0, 99, 99), "0011");
        a.due("the head is one with a greater number", y.headOf(0), 3);
        a.due("and the other", y.headOf(1), 2);
    }

    private void nearestByOne() {
        a.holds(16, "Rounds", "joins the head with the smallest distance");
        // 101 and 100 cost the same, but are not the same distance.
        ClusterField x = Networks.runOne(at(0, 0, 20, 1, 10, 1), "110");
        a.due("the nearer one by 1", x.headOf(2), 1);
        ClusterField y = Networks.runOne(at(20, 1, 0, 0, 10, 1), "110");
        a.due("the nearer one by 1, first", y.headOf(2), 0);
    }

    private void smallestNumberOfSeveral() {
        a.holds(16, "Rounds", "the head with the smallest distance, of several the one with the smallest number");
        ClusterField x = Networks.runOne(at(10, 10, 30, 10, 20, 10), "110");
        a.due("of two", x.headOf(2), 0);
        ClusterField y = Networks.runOne(at(20, 10, 30, 10, 10, 10), "011");
        a.due("of two behind it", y.headOf(0), 1);
        ClusterField z = Networks.runOne(at(20, 20, 30, 20, 10, 20, 20, 30, 20, 10), "01111");
        a.due("of four", z.headOf(0), 1);
    }

    private void deadJoinNothing() {
        a.holds(17, "Rounds", "each sensor that is alive and no head joins the head");
        ClusterField x = Networks.runOne(Networks.atBase(4, 1000, 1000, 1000), "0000");
        Networks.elect(x, 3, "100").run(1);
        a.due("the dead one has no head", x.headOf(0), NONE);
        a.due("the dead one has no slot", x.slotOf(0), NONE);
        a.due("slots begin behind it", x.slotOf(2), 0);
        a.due("and go on", x.slotOf(3), 1);
        a.due("delivered", x.lastDelivered(), 3);
    }

    private void headIsAMember() {
        a.holds(16, "Rounds", "The members of a cluster are its head and the sensors that joined it");
        ClusterField x = Networks.runOne(Networks.atBase(1000, 1000), "01");
        a.due("the head's head", x.headOf(1), 1);
        a.due("the head's slot", x.slotOf(1), NONE);
        a.due("the other's head", x.headOf(0), 1);
        a.due("the other's slot", x.slotOf(0), 0);
    }

    private void slotsOfAFullCluster() {
        a.holds(17, "Rounds", "The sensors that joined a head get slots, numbered from 0 in ascending order of the "
                + "sensors");
        ClusterField x = Networks.runOne(Networks.full(1000), "000001000000");
        for (int n = 0; n < 12; n++) {
            a.due("head of " + n, x.headOf(n), 5);
            a.due("slot of " + n, x.slotOf(n), n < 5 ? n : n == 5 ? NONE : n - 1);
        }
        a.due("delivered", x.lastDelivered(), 12);
        a.due("the head received eleven", x.battery(5), 1000 - 2 - 11 * 6 - 1 - 5);
    }

    private void slotsOfTwoClusters() {
        a.holds(17, "Rounds", "get slots, numbered from 0 in ascending order of the sensors");
        ClusterField x = Networks.runOne(at(0, 0, 99, 99, 0, 1, 99, 98, 0, 2, 99, 97), "110000");
        int[] slots = {NONE, NONE, 0, 0, 1, 1};
        for (int n = 0; n < 6; n++) {
            a.due("slot of " + n, x.slotOf(n), slots[n]);
            a.due("head of " + n, x.headOf(n), n % 2);
        }
    }

    private void nobodyLeftToJoin() {
        a.holds(17, "Rounds", "The sensors that joined a head get slots");
        ClusterField x = Networks.full(1000);
        x.setSetting(0, 2);
        Networks.elect(x, 2, ALL_OF_TWELVE).run(1);
        a.due("heads", x.headCount(), 12);
        for (int n = 0; n < 12; n++) {
            a.due("head of " + n, x.headOf(n), n);
            a.due("slot of " + n, x.slotOf(n), NONE);
            a.due("battery of " + n, x.battery(n), 1000 - 2 - 1 - 5);
        }
        a.due("delivered", x.lastDelivered(), 12);
    }

    private void noHeadNoCluster() {
        a.holds(16, "Rounds", "If there is no head, no sensor joins anything");
        ClusterField x = Networks.runOne(Networks.full(1000), "000000000000");
        for (int n = 0; n < 12; n++) {
            a.due("head of " + n, x.headOf(n), NONE);
            a.due("slot of " + n, x.slotOf(n), NONE);
        }
    }

    private void memberPaysItsLastUnits() {
        a.holds(7, "Rounds", "4. Reporting to heads: in ascending order of the heads, and for each head in the order "
                + "of slots, each sensor that joined it and is still alive pays for sending a message to its head");
        ClusterField x = Networks.runOne(Networks.atBase(1000, 5), "10");
        a.due("nothing left", x.battery(1), 0);
        a.due("alive", x.isAlive(1), 1);
        a.due("its reading arrived", x.lastDelivered(), 2);
    }

    private void memberCannotPay() {
        a.holds(7, "Rounds", "If it pays, the head, if it is still alive, pays for receiving a message");
        ClusterField x = Networks.runOne(Networks.atBase(1000, 4, 1000), "100");
        a.due("dead", x.deathRound(1), 0);
        a.due("keeps its units", x.battery(1), 4);
        a.due("was in the cluster", x.headOf(1), 0);
        a.due("had its slot", x.slotOf(1), 0);
        a.due("the next slot is another's", x.slotOf(2), 1);
        a.due("the head received one message", x.battery(0), 1000 - 2 - 6 - 1 - 5);
        a.due("delivered", x.lastDelivered(), 2);
    }

    private void headCannotReceive() {
        a.holds(7, "Rounds", "the head, if it is still alive, pays for receiving a message");
        ClusterField x = Networks.runOne(Networks.atBase(2 + 4, 1000), "10");
        a.due("one too few: kept", x.battery(0), 4);
        a.due("one too few: paid", x.energyPaid(), 2 + 5);
        a.due("one too few: dead", x.deathRound(0), 0);
        a.due("one too few: delivered", x.lastDelivered(), 0);
        ClusterField y = Networks.runOne(Networks.atBase(2 + 5, 1000), "10");
        a.due("exactly enough: left", y.battery(0), 0);
        a.due("exactly enough: paid", y.energyPaid(), 2 + 5 + 5);
    }

    private void headCannotAggregate() {
        a.holds(7, "Rounds", "pays for receiving a message, and then, if it paid, for aggregating a message");
        ClusterField x = Networks.atBase(2 + 5 + 19, 1000);
        x.setSetting(3, 20);
        Networks.runOne(x, "10");
        a.due("one too few: kept", x.battery(0), 19);
        a.due("one too few: paid", x.energyPaid(), 2 + 5 + 5);
        a.due("one too few: dead", x.isAlive(0), 0);
        a.due("one too few: delivered", x.lastDelivered(), 0);
        ClusterField y = Networks.atBase(2 + 5 + 20, 1000);
        y.setSetting(3, 20);
        Networks.runOne(y, "10");
        a.due("exactly enough: left", y.battery(0), 0);
        a.due("exactly enough: paid", y.energyPaid(), 2 + 5 + 20 + 5);
    }

    private void readingIsWithTheHead() {
        a.holds(19, "Rounds", "If it pays for both, the reading of the sensor is with the head");
        ClusterField x = Networks.runOne(Networks.atBase(2 + 6 + 1 + 5, 1000), "10");
        a.due("two readings for the last units", x.lastDelivered(), 2);
        a.due("nothing left", x.battery(0), 0);
        a.due("alive", x.isAlive(0), 1);
    }

    private void deadHeadIsSentTo() {
        a.holds(7, "Rounds", "Otherwise the message is lost");
        // The head receives the first message and dies of the second; the third is sent all the same.
        ClusterField x = Networks.runOne(Networks.atBase(2 + 6 + 4, 1000, 1000, 1000), "1000");
        for (int n = 1; n <= 3; n++) {
            a.due("member " + n + " paid", x.battery(n), 1000 - 5);
            a.due("member " + n + " has its head", x.headOf(n), 0);
        }
        a.due("the head keeps", x.battery(0), 4);
        a.due("the head is dead", x.isAlive(0), 0);
        a.due("delivered", x.lastDelivered(), 0);
        a.due("paid", x.energyPaid(), 2 + 6 + 3 * 5);
        a.due("still counted as head", x.headCount(), 1);
    }

    private void deadHeadReceivesNothing() {
        a.holds(7, "Rounds", "the head, if it is still alive, pays for receiving a message, and then");
        // It dies of aggregating the first message, with units that would do for receiving the second.
        ClusterField x = Networks.atBase(2 + 5 + 19, 1000, 1000);
        x.setSetting(3, 20);
        Networks.runOne(x, "100");
        a.due("kept", x.battery(0), 19);
        a.due("both members paid", x.energyPaid(), 2 + 5 + 5 + 5);
    }

    private void ownReading() {
        a.holds(7, "Rounds", "5. Forwarding: in ascending order, each head that is still alive pays for aggregating "
                + "its own reading; if it pays, its own reading is with it");
        ClusterField x = Networks.atBase(2 + 20);
        x.setSetting(3, 20);
        Networks.runOne(x, "1");
        a.due("exactly enough: paid", x.energyPaid(), 2 + 20);
        a.due("exactly enough: left", x.battery(0), 0);
        ClusterField y = Networks.atBase(2 + 19);
        y.setSetting(3, 20);
        Networks.runOne(y, "1");
        a.due("one too few: paid", y.energyPaid(), 2);
        a.due("one too few: kept", y.battery(0), 19);
        a.due("one too few: dead", y.isAlive(0), 0);
        ClusterField z = Networks.runOne(Networks.atBase(1000), "1");
        a.due("a lone head's own reading", z.lastDelivered(), 1);
    }

    private void headDiesOfItsOwnReading() {
        a.holds(19, "Rounds", "A head that dies here loses all readings that are with it");
        // 19 units would do for sending, if the head lived on.
        ClusterField x = Networks.atBase(2 + 25 + 19, 1000);
        x.setSetting(3, 20);
        Networks.runOne(x, "10");
        a.due("delivered", x.lastDelivered(), 0);
        a.due("dead", x.isAlive(0), 0);
        a.due("did not send", x.battery(0), 19);
        a.due("was head", x.headCount(), 1);
    }

    private void deadHeadAggregatesNothing() {
        a.holds(7, "Rounds", "each head that is still alive pays for aggregating its own reading");
        ClusterField x = Networks.runOne(Networks.atBase(2 + 4, 1000, 1000), "101");
        a.due("the dead head paid for announcing alone", x.battery(0), 4);
        a.due("the living one delivers", x.lastDelivered(), 1);
    }

    private void directDelivery() {
        a.holds(7, "Rounds", "6. Delivery: with direct routing, in ascending order, each head that is still alive pays "
                + "for sending a message to the base station; if it pays, all readings that are with it are delivered");
        ClusterField x = Networks.runOne(Networks.atBase(2 + 1 + 5), "1");
        a.due("exactly enough: delivered", x.lastDelivered(), 1);
        a.due("exactly enough: alive", x.isAlive(0), 1);
        a.due("exactly enough: left", x.battery(0), 0);
        ClusterField y = Networks.runOne(Networks.atBase(2 + 1 + 4), "1");
        a.due("one too few: delivered", y.lastDelivered(), 0);
        a.due("one too few: dead", y.isAlive(0), 0);
        a.due("one too few: kept", y.battery(0), 4);
    }

    private void directDeliveryByEachHead() {
        a.holds(7, "Rounds", "each head that is still alive pays for sending a message to the base station");
        ClusterField x = Networks.runOne(Networks.atBase(7, 8, 7, 8), "1111");
        int[] left = {4, 0, 4, 0};
        for (int n = 0; n < 4; n++) {
            a.due("left to " + n, x.battery(n), left[n]);
            a.due("alive " + n, x.isAlive(n), n % 2);
        }
        a.due("delivered", x.lastDelivered(), 2);
    }

    private void relayIsTheNearest() {
        a.holds(7, "Rounds", "With relay routing, the relay is the head that is alive and has the smallest distance to "
                + "the base station");
        // Distances of 101 and 100 to the base cost the same, but the second is the relay.
        ClusterField x = at(10, 1, 10, 0);
        x.moveBase(0, 0);
        x.setSetting(5, 1);
        Networks.runOne(x, "11");
        a.due("0 sends to 1", x.battery(0), 10000 - 2 - 1 - 5);
        a.due("1 is the relay", x.battery(1), 10000 - 2 - 1 - 6 - 6);
    }

    private void relayIsTheFirstOfSeveral() {
        a.holds(7, "Rounds", "has the smallest distance to the base station, of several the one with the smallest "
                + "number");
        ClusterField x = Networks.runOne(relayAtBase(1000, 1000, 1000), "011");
        a.due("1 is the relay", x.battery(1), 1000 - 2 - 6 - 1 - 6 - 5);
        a.due("2 sends to it", x.battery(2), 1000 - 2 - 1 - 5);
        a.due("delivered", x.lastDelivered(), 3);
    }

    private void deadHeadIsNoRelay() {
        a.holds(7, "Rounds", "the relay is the head that is alive");
        ClusterField x = Networks.runOne(relayAtBase(2, 1000, 1000), "111");
        a.due("the dead one received nothing", x.energyPaid(), 2 + (2 + 1 + 6 + 5) + (2 + 1 + 5));
        a.due("1 is the relay", x.battery(1), 1000 - 2 - 1 - 6 - 5);
        a.due("delivered", x.lastDelivered(), 2);
    }

    private void relayAlone() {
        a.holds(7, "Rounds", "First, in ascending order, each other head that is still alive pays for sending");
        ClusterField x = Networks.runOne(relayAtBase(1000), "1");
        a.due("a lone relay sends but to the base", x.battery(0), 1000 - 2 - 1 - 5);
        a.due("delivered", x.lastDelivered(), 1);
    }

    private void senderToTheRelay() {
        a.holds(7, "Rounds", "First, in ascending order, each other head that is still alive pays for sending a "
                + "message to the relay; if it pays, the relay, if it is still alive, pays for receiving");
        ClusterField x = Networks.runOne(relayAtBase(1000, 2 + 1 + 5), "11");
        a.due("exactly enough: left", x.battery(1), 0);
        a.due("exactly enough: alive", x.isAlive(1), 1);
        a.due("exactly enough: delivered", x.lastDelivered(), 2);
        ClusterField y = Networks.runOne(relayAtBase(1000, 2 + 1 + 4), "11");
        a.due("one too few: kept", y.battery(1), 4);
        a.due("one too few: dead", y.isAlive(1), 0);
        a.due("one too few: the relay received nothing", y.battery(0), 1000 - 2 - 1 - 5);
        a.due("one too few: delivered", y.lastDelivered(), 1);
    }

    private void relayCannotReceive() {
        a.holds(7, "Rounds", "the relay, if it is still alive, pays for receiving and then, if it paid, for "
                + "aggregating");
        ClusterField x = Networks.runOne(relayAtBase(2 + 1 + 4, 1000), "11");
        a.due("one too few: kept", x.battery(0), 4);
        a.due("one too few: dead", x.isAlive(0), 0);
        a.due("one too few: delivered", x.lastDelivered(), 0);
        ClusterField y = Networks.runOne(relayAtBase(2 + 1 + 5, 1000), "11");
        a.due("exactly enough: left", y.battery(0), 0);
        a.due("exactly enough: paid", y.energyPaid(), 2 * (2 + 1) + 5 + 5);
    }

    private void relayCannotAggregate() {
        a.holds(7, "Rounds", "if it paid, for aggregating; if it pays for both, the readings that are with the sending "
                + "head are with the relay from then on");
        ClusterField x = relayAtBase(2 + 20 + 5 + 19, 1000);
        x.setSetting(3, 20);
        Networks.runOne(x, "11");
        a.due("one too few: kept", x.battery(0), 19);
        a.due("one too few: dead", x.isAlive(0), 0);
        a.due("one too few: delivered", x.lastDelivered(), 0);
        ClusterField y = relayAtBase(2 + 20 + 5 + 20, 1000);
        y.setSetting(3, 20);
        Networks.runOne(y, "11");
        a.due("exactly enough: left", y.battery(0), 0);
        a.due("exactly enough: paid", y.energyPaid(), 2 * (2 + 20) + 5 + 25);
    }

    private void readingsMoveToTheRelay() {
        a.holds(19, "Rounds", "the readings that are with the sending head are with the relay from then on");
        ClusterField x = at(10, 10, 50, 50, 10, 10, 10, 10);
        x.moveBase(50, 50);
        x.setSetting(5, 1);
        Networks.runOne(x, "1100");
        a.due("the sender's members", x.headOf(3), 0);
        a.due("all of its readings and the relay's", x.lastDelivered(), 4);
        a.due("the relay paid for one message", x.battery(1), 10000 - 2 - 1 - 6 - 5);
    }

    private void deadRelayIsSentTo() {
        a.holds(7, "Rounds", "if it pays, the relay, if it is still alive, pays for receiving");
        ClusterField x = Networks.runOne(relayAtBase(2 + 1 + 6 + 4, 1000, 1000, 1000), "1111");
        for (int n = 1; n <= 3; n++) {
            a.due("head " + n + " paid", x.battery(n), 1000 - 2 - 1 - 5);
        }
        a.due("the relay died of the second message", x.battery(0), 4);
        a.due("dead", x.isAlive(0), 0);
        a.due("delivered", x.lastDelivered(), 0);
    }

    private void deadRelayReceivesNothing() {
        a.holds(7, "Rounds", "the relay, if it is still alive, pays for receiving and then");
        // It dies of aggregating the first message, with units that would do for receiving the second.
        ClusterField x = relayAtBase(2 + 20 + 5 + 19, 1000, 1000);
        x.setSetting(3, 20);
        Networks.runOne(x, "111");
        a.due("kept", x.battery(0), 19);
        a.due("both senders paid", x.energyPaid(), 3 * (2 + 20) + 5 + 5 + 5);
    }

    private void relayDelivery() {
        a.holds(7, "Rounds", "At last the relay, if it is still alive, pays for sending a message to the base station; "
                + "if it pays, all readings that are with it are delivered");
        ClusterField x = Networks.runOne(relayAtBase(2 + 1 + 6 + 5, 1000), "11");
        a.due("exactly enough: delivered", x.lastDelivered(), 2);
        a.due("exactly enough: left", x.battery(0), 0);
        a.due("exactly enough: alive", x.isAlive(0), 1);
        ClusterField y = Networks.runOne(relayAtBase(2 + 1 + 6 + 4, 1000), "11");
        a.due("one too few: delivered", y.lastDelivered(), 0);
        a.due("one too few: kept", y.battery(0), 4);
        a.due("one too few: dead", y.isAlive(0), 0);
        // 19 units would do for sending to the base, but the relay died of aggregating.
        ClusterField z = relayAtBase(2 + 20 + 5 + 19, 1000);
        z.setSetting(3, 20);
        Networks.runOne(z, "11");
        a.due("dead before: kept", z.battery(0), 19);
        a.due("dead before: delivered", z.lastDelivered(), 0);
    }

    private void relayOfAllTwelve() {
        a.holds(7, "Rounds", "each other head that is still alive pays for sending a message to the relay");
        ClusterField x = Networks.full(1000);
        x.setSetting(0, 2);
        x.setSetting(5, 1);
        Networks.elect(x, 2, ALL_OF_TWELVE).run(1);
        a.due("the relay", x.battery(0), 1000 - 2 - 1 - 11 * 6 - 5);
        for (int n = 1; n < 12; n++) {
            a.due("head " + n, x.battery(n), 1000 - 2 - 1 - 5);
        }
        a.due("delivered", x.lastDelivered(), 12);
    }

    private void noHeadLeftToDeliver() {
        a.holds(19, "Rounds", "With relay routing, the relay is the head that is alive");
        ClusterField x = Networks.runOne(relayAtBase(2, 2, 1000), "110");
        a.due("alive", x.aliveCount(), 1);
        a.due("heads", x.headCount(), 2);
        a.due("delivered", x.lastDelivered(), 0);
        a.due("the member sent but to its head", x.battery(2), 1000 - 5);
        a.due("the round was performed", x.roundNumber(), 1);
        ClusterField y = Networks.runOne(Networks.atBase(2, 2, 1000), "110");
        a.due("direct: delivered", y.lastDelivered(), 0);
        a.due("direct: paid", y.energyPaid(), 2 + 2 + 5);
    }

    private void noHeadAfterAnnouncing() {
        a.holds(7, "Rounds", "7. If there was no head after step 2");
        ClusterField x = Networks.runOne(relayAtBase(1, 1000), "10");
        a.due("heads", x.headCount(), 0);
        a.due("the other sends to the base", x.battery(1), 1000 - 5);
        a.due("delivered", x.lastDelivered(), 1);
        a.due("the dead one sends nothing", x.battery(0), 1);
        a.due("in no cluster", x.headOf(1), NONE);
    }

    private void deadSendNothingToTheBase() {
        a.holds(7, "Rounds", "each sensor that is alive pays for sending a message to the base station");
        // 49 units are too few for announcing, but would do for sending.
        ClusterField x = Networks.atBase(49, 1000);
        x.setSetting(4, 50);
        Networks.runOne(x, "10");
        a.due("heads", x.headCount(), 0);
        a.due("kept", x.battery(0), 49);
        a.due("delivered", x.lastDelivered(), 1);
    }

    private void noHeadAndLastUnits() {
        a.holds(7, "Rounds", "7. If there was no head after step 2: in ascending order, each sensor that is alive pays "
                + "for sending a message to the base station; if it pays, its reading is delivered");
        ClusterField x = Networks.runOne(relayAtBase(5, 4, 6, 0), "0000");
        int[] left = {0, 4, 1, 0};
        int[] alive = {1, 0, 1, 0};
        for (int n = 0; n < 4; n++) {
            a.due("left to " + n, x.battery(n), left[n]);
            a.due("alive " + n, x.isAlive(n), alive[n]);
        }
        a.due("delivered", x.lastDelivered(), 2);
    }

    private void headsThatDieLater() {
        a.holds(19, "Rounds", "If there was no head after step 2: in ascending order, each sensor that is alive pays");
        ClusterField x = Networks.runOne(Networks.atBase(2, 1000), "10");
        a.due("there was one after step 2", x.headCount(), 1);
        a.due("its member sends but once", x.battery(1), 1000 - 5);
        a.due("delivered", x.lastDelivered(), 0);
    }

    private void nextNumber() {
        a.holds(8, "Rounds", "The number of the next round is 1 greater");
        ClusterField x = Networks.runOne(Networks.atBase(1000, 4), "00");
        a.due("after the first", x.roundNumber(), 1);
        x.run(1);
        a.due("after the second", x.roundNumber(), 2);
        ClusterField y = Networks.runOne(Networks.atBase(4), "0");
        a.due("after the one in which all died", y.roundNumber(), 1);
    }

    private void noRoundWithoutTheLiving() {
        a.holds(7, "Rounds", "No round is performed if no sensor is alive");
        ClusterField x = new ClusterField();
        a.due("no sensors", x.run(1), ILLEGAL);
        a.due("no sensors, no round", x.roundNumber(), 0);
        a.due("no sensors, no forecast", x.forecastDelivered(300), 0);
        ClusterField y = Networks.elect(Networks.atBase(4, 4), "00");
        a.due("all die in the first of 50", y.run(50), 1);
        a.due("number", y.roundNumber(), 1);
        a.due("all dead", y.run(1), ILLEGAL);
        a.due("all dead, no round", y.roundNumber(), 1);
        a.due("all dead, no forecast", y.forecastDelivered(1), 0);
        a.due("wrong rounds", y.run(0), INVALID);
    }
}
