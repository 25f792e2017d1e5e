/** Promise 14: hurry. */
public final class Promise14HurryTest {
    public static void main(String[] args) {
        makesItDueAtTheClock();
        leavesTheGap();
        movesAnEarlierDueTimeUp();
        refusesUnknownNumbers();
        isAChange();
        Check.end();
    }

    private static void makesItDueAtTheClock() {
        MailAgent agent = Check.busyAgent();
        Check.send(agent, 3, 0, 8);
        Check.send(agent, 3, 0, 9);
        agent.tick(2);
        Check.due("due(2)", agent.due(2), 7);
        agent.host(1, Check.UP);
        agent.tick(4);
        Check.due("hurry(2)", agent.hurry(2), 1);
        Check.due("due(2)", agent.due(2), 4);
        Check.due("due(1)", agent.due(1), 7);
        Check.due("nothing is tried before the next tick", agent.received(9, 0), 0);
        Check.due("tick(4)", agent.tick(4), 1);
        Check.due("received(9, 0)", agent.received(9, 0), 1);
        Check.due("received(8, 0)", agent.received(8, 0), 0);
    }

    private static void leavesTheGap() {
        MailAgent agent = Check.busyAgent();
        Check.send(agent, 3, 0, 8);
        agent.tick(0);
        agent.hurry(1);
        agent.hurry(1);
        agent.tick(1);
        Check.due("the second gap", agent.due(1), 11);
        agent.hurry(1);
        agent.tick(1);
        Check.due("the third gap", agent.due(1), 21);
    }

    private static void movesAnEarlierDueTimeUp() {
        MailAgent agent = Check.routedAgent();
        Check.send(agent, 3, 0, 8);
        agent.host(1, Check.BUSY);
        agent.tick(0);
        agent.sync();
        agent.host(1, Check.UP);
        agent.tick(9);
        Check.due("crash()", agent.crash(), 2);
        Check.due("due(1) is behind the clock", agent.due(1), 5);
        Check.due("hurry(1)", agent.hurry(1), 1);
        Check.due("due(1)", agent.due(1), 9);
    }

    private static void refusesUnknownNumbers() {
        MailAgent agent = Check.agent();
        Check.due("hurry(0) of an empty queue", agent.hurry(0), MailAgent.UNKNOWN);
        Check.send(agent, 3, 0, 1);
        for (int number : new int[] {0, -1, 2, Integer.MIN_VALUE, Integer.MAX_VALUE}) {
            Check.due("hurry(" + number + ")", agent.hurry(number), MailAgent.UNKNOWN);
        }
        Check.due("count(3)", agent.count(3), 0);
        agent.drop(1);
        Check.due("one that has left", agent.hurry(1), MailAgent.UNKNOWN);
    }

    private static void isAChange() {
        MailAgent agent = Check.busyAgent();
        Check.send(agent, 3, 0, 8);
        agent.tick(0);
        agent.sync();
        agent.hurry(1);
        Check.due("count(3)", agent.count(3), 1);
        Check.due("crash()", agent.crash(), 1);
        Check.due("due(1)", agent.due(1), 5);
        Check.makeChanges(agent, 1, 23);
        agent.hurry(1);
        Check.due("24 changes are durable", agent.count(3), 0);
        Check.due("crash()", agent.crash(), 0);
        Check.due("due(1)", agent.due(1), 0);
    }
}
