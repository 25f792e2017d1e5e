/** Promise 10: tick, and the attempt on a message. */
public final class Promise10TickTest {
    public static void main(String[] args) {
        setsTheClock();
        refusesWhatIsOutOfRange();
        attemptsOnlyWhatIsDue();
        attemptsByRisingNumber();
        attemptsEachMessageOnce();
        doublesTheGap();
        failsWithoutRoutes();
        triesOnlyTheWaiting();
        givesUpInTime();
        reportsToTheSender();
        reportFollowsNoAlias();
        reportFailsSilently();
        reportIsPutOffToo();
        reportWaitsFromItsOwnStart();
        nobodyGetsNoReport();
        remembersEarlierFailure();
        removesFromTheMiddle();
        keepsFewerThan24Changes();
        Check.end();
    }

    private static void setsTheClock() {
        MailAgent agent = Check.agent();
        for (int time : new int[] {0, 0, 1, 500, 999999, 1000000, 1000000}) {
            Check.due("tick(" + time + ")", agent.tick(time), 0);
            Check.due("count(4)", agent.count(4), time);
        }
    }

    private static void refusesWhatIsOutOfRange() {
        MailAgent agent = Check.agent();
        agent.tick(50);
        Check.send(agent, -1, 0, 1);
        for (int time : new int[] {49, 0, -1, 1000001, Integer.MIN_VALUE, Integer.MAX_VALUE}) {
            Check.due("tick(" + time + ")", agent.tick(time), MailAgent.SYNTAX);
        }
        Check.due("count(4)", agent.count(4), 50);
        Check.due("count(0)", agent.count(0), 1);
        Check.due("tick(50)", agent.tick(50), 1);
    }

    private static void attemptsOnlyWhatIsDue() {
        MailAgent agent = Check.busyAgent();
        Check.send(agent, -1, 0, 8);
        agent.tick(0);
        agent.host(1, Check.UP);
        Check.due("tick(4), a moment too early", agent.tick(4), 0);
        Check.due("due(1)", agent.due(1), 5);
        Check.due("tick(5)", agent.tick(5), 1);
        Check.due("count(0)", agent.count(0), 0);
    }

    private static void attemptsByRisingNumber() {
        MailAgent agent = Check.agent();
        Check.send(agent, -1, 0, 3);
        Check.send(agent, -1, 0, 3, 4);
        Check.send(agent, -1, 0, 3);
        Check.due("tick(0)", agent.tick(0), 4);
        Check.due("the last one for 3", agent.received(3, 2), 3);
        Check.due("the last one for 4", agent.received(4, 2), 2);
        Check.due("count(0)", agent.count(0), 0);
        Check.due("4 delivered, 3 left", agent.count(3), 7);
    }

    private static void attemptsEachMessageOnce() {
        MailAgent agent = Check.agent();
        Check.send(agent, 3, 0, 8);
        Check.due("tick(10)", agent.tick(10), 0);
        Check.due("due of the report", agent.due(1), 10);
        Check.due("received(3, 1)", agent.received(3, 1), 0);
        Check.due("tick(10)", agent.tick(10), 1);
        Check.due("received(3, 1)", agent.received(3, 1), 1);
    }

    private static void doublesTheGap() {
        MailAgent agent = new MailAgent(3, 20, 1000);
        agent.route(1, 1, 1);
        agent.host(1, Check.BUSY);
        Check.send(agent, -1, 0, 8);
        int[] ticks = {2, 7, 13, 25, 60, 80};
        int[] dues = {5, 13, 25, 45, 80, 100};
        for (int i = 0; i < ticks.length; i++) {
            Check.due("tick(" + ticks[i] + ")", agent.tick(ticks[i]), 0);
            Check.due("due after tick(" + ticks[i] + ")", agent.due(1), dues[i]);
            Check.due("count(3)", agent.count(3), i + 1);
        }
    }

    private static void failsWithoutRoutes() {
        MailAgent agent = Check.busyAgent();
        Check.send(agent, 3, 0, 8, 16, 4);
        Check.due("tick(0)", agent.tick(0), 1);
        Check.due("busy", agent.status(1, 8), Check.WAITING);
        Check.due("no routes", agent.status(1, 16), Check.FAILED);
        Check.due("local", agent.status(1, 4), Check.DELIVERED);
        Check.due("failed, delivered, put off", agent.count(3), 3);
        Check.due("count(2)", agent.count(2), 1);
    }

    private static void triesOnlyTheWaiting() {
        MailAgent agent = Check.busyAgent();
        Check.send(agent, -1, 0, 4, 8, 16);
        agent.tick(0);
        agent.route(2, 2, 0);
        Check.due("tick(5)", agent.tick(5), 0);
        Check.due("what was delivered is not again", agent.received(4, 0), 1);
        Check.due("what failed is not tried again", agent.status(1, 16), Check.FAILED);
        Check.due("received(16, 0)", agent.received(16, 0), 0);
    }

    private static void givesUpInTime() {
        MailAgent agent = Check.busyAgent();
        Check.send(agent, 3, 10, 8, 9);
        agent.tick(59);
        Check.due("both wait", agent.count(2), 2);
        agent.hurry(1);
        agent.sync();
        Check.due("tick(60)", agent.tick(60), 0);
        Check.due("two failed, one report", agent.count(3), 3);
        Check.due("status(1, 3)", agent.status(1, 3), Check.WAITING);
        Check.due("status(1, 8)", agent.status(1, 8), 0);
        deliversBeforeItGivesUp();
    }

    private static void deliversBeforeItGivesUp() {
        MailAgent agent = Check.routedAgent();
        Check.send(agent, 3, 10, 8, 9);
        Check.due("tick(60)", agent.tick(60), 2);
        Check.due("count(0)", agent.count(0), 0);
        Check.due("received(3, 1)", agent.received(3, 1), 0);
    }

    private static void reportsToTheSender() {
        MailAgent agent = Check.agent();
        agent.route(5, 6, 0);
        Check.send(agent, 40, 30, 4, 8, 9);
        Check.due("tick(7)", agent.tick(7), 1);
        Check.due("message(0)", agent.message(0), 1);
        Check.due("sender(1)", agent.sender(1), -1);
        Check.due("count(1)", agent.count(1), 2);
        Check.due("count(2)", agent.count(2), 1);
        Check.due("due(1)", agent.due(1), 7);
        Check.due("status(1, 40)", agent.status(1, 40), Check.WAITING);
        Check.due("status(1, 4)", agent.status(1, 4), 0);
        Check.due("delivered, failed, failed, report", agent.count(3), 4);
        Check.due("tick(8)", agent.tick(8), 1);
        Check.due("received(40, 0)", agent.received(40, 0), 0);
        Check.due("received(40, 1)", agent.received(40, 1), 1);
        Check.due("received(40, 2)", agent.received(40, 2), 1);
        Check.due("received(6, 3)", agent.received(6, 3), 1);
        Check.due("count(0)", agent.count(0), 0);
        Check.due("count(3)", agent.count(3), 6);
    }

    private static void reportFollowsNoAlias() {
        MailAgent agent = Check.agent();
        agent.alias(3, 4);
        Check.send(agent, 3, 0, 8);
        agent.tick(0);
        Check.due("status(1, 3)", agent.status(1, 3), Check.WAITING);
        Check.due("tick(0)", agent.tick(0), 1);
        Check.due("received(3, 1)", agent.received(3, 1), 1);
        Check.due("received(4, 1)", agent.received(4, 1), 0);
    }

    private static void reportFailsSilently() {
        MailAgent agent = Check.agent();
        Check.send(agent, 40, 0, 8);
        agent.tick(0);
        Check.due("status(1, 40)", agent.status(1, 40), Check.WAITING);
        Check.due("tick(0)", agent.tick(0), 0);
        Check.due("count(0)", agent.count(0), 0);
        Check.due("failed, report, failed, left", agent.count(3), 4);
    }

    private static void reportIsPutOffToo() {
        MailAgent agent = Check.busyAgent();
        Check.send(agent, 8, 0, 9);
        agent.tick(0);
        agent.tick(5);
        Check.due("the second gap", agent.due(1), 15);
        agent.tick(60);
        Check.due("the report is due at once", agent.due(1), 60);
        Check.due("its recipient is the sender", agent.status(1, 8), Check.WAITING);
        agent.tick(61);
        Check.due("the report's gap is minGap", agent.due(1), 66);
        agent.tick(66);
        Check.due("and doubled", agent.due(1), 76);
    }

    private static void reportWaitsFromItsOwnStart() {
        MailAgent agent = Check.busyAgent();
        Check.send(agent, 8, 0, 9);
        agent.tick(70);
        agent.tick(129);
        Check.due("it waits for 59", agent.status(1, 8), Check.WAITING);
        agent.hurry(1);
        agent.tick(130);
        Check.due("and is given up after 60", agent.count(0), 0);
    }

    private static void nobodyGetsNoReport() {
        MailAgent agent = Check.agent();
        Check.send(agent, -1, 0, 8);
        agent.tick(0);
        Check.due("count(0)", agent.count(0), 0);
        Check.due("failed, left", agent.count(3), 2);
    }

    private static void remembersEarlierFailure() {
        MailAgent agent = Check.busyAgent();
        Check.send(agent, 3, 0, 16, 8);
        agent.tick(0);
        agent.host(1, Check.UP);
        Check.due("tick(5)", agent.tick(5), 1);
        Check.due("a report all the same", agent.status(1, 3), Check.WAITING);
    }

    private static void removesFromTheMiddle() {
        MailAgent agent = Check.busyAgent();
        Check.send(agent, -1, 0, 8);
        Check.send(agent, -1, 0, 1);
        Check.send(agent, -1, 0, 2);
        Check.send(agent, -1, 0, 9);
        Check.send(agent, 5, 0, 16);
        Check.send(agent, -1, 0, 3);
        Check.due("tick(0)", agent.tick(0), 3);
        Check.due("count(0)", agent.count(0), 3);
        int[] left = {1, 4, 5, 0};
        for (int k = 0; k < left.length; k++) {
            Check.due("message(" + k + ")", agent.message(k), left[k]);
        }
        Check.due("due(1)", agent.due(1), 5);
        Check.due("due(4)", agent.due(4), 5);
        Check.due("status(5, 5)", agent.status(5, 5), Check.WAITING);
    }

    private static void keepsFewerThan24Changes() {
        for (int before = 20; before <= 22; before++) {
            MailAgent agent = Check.agent();
            Check.send(agent, -1, 0, 1);
            Check.makeChanges(agent, 1, before);
            Check.due("tick(0), two changes more", agent.tick(0), 1);
            Check.due("count(3)", agent.count(3), before + 2 < 24 ? before + 2 : 0);
            Check.due("crash()", agent.crash(), before + 2 < 24 ? before + 2 : 0);
            Check.due("count(0)", agent.count(0), before + 2 < 24 ? 1 : 0);
        }
        moreThan24AtOnce();
    }

    private static void moreThan24AtOnce() {
        MailAgent agent = Check.agent();
        for (int i = 0; i < 6; i++) {
            Check.send(agent, -1, 0, 1, 2, 3, 4);
        }
        Check.due("tick(0)", agent.tick(0), 24);
        Check.due("30 changes at the end of the call", agent.count(3), 0);
        Check.due("crash()", agent.crash(), 0);
        Check.due("count(0)", agent.count(0), 0);
    }
}
