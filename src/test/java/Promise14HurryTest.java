/** Promise 14: hurry. */
public final class Promise14HurryTest {
    public static void main(String[] args) {
        dueIsTheClock();
        dueWasTheClock();
        dueWasBeforeTheClock();
        gapStays();
        startStays();
        hurriesAReport();
        emptyQueue();
        numbersThatAreNotInTheQueue();
        numberThatHasLeft();
        refusedChangesNothing();
        isAChange();
        Check.end();
    }

    /** "due is the clock [...]; 1." */
    private static void dueIsTheClock() {
        MailAgent agent = Check.busyAgent();
        Check.send(agent, 3, 0, 8);
        Check.send(agent, 3, 0, 9);
        agent.tick(2);
        Check.due("due(2)", agent.due(2), 7);
        agent.host(1, Check.UP);
        agent.tick(4);
        Check.due("hurry(2)", agent.hurry(2), 1);
        Check.due("due(2)", agent.due(2), 4);
        Check.due("due(1)", agent.due(1), 7);
        Check.due("nothing is tried before the next tick", agent.received(9, 0), 0);
        Check.due("tick(4)", agent.tick(4), 1);
        Check.due("received(9, 0)", agent.received(9, 0), 1);
        Check.due("received(8, 0)", agent.received(8, 0), 0);
    }

    private static void dueWasTheClock() {
        MailAgent agent = Check.agent();
        agent.tick(9);
        Check.send(agent, 3, 0, 1);
        Check.due("hurry(1)", agent.hurry(1), 1);
        Check.due("due(1)", agent.due(1), 9);
        Check.due("it is put off all the same", agent.count(3), 1);
    }

    /** A crash can bring back a due time that the clock has passed. */
    private static void dueWasBeforeTheClock() {
        MailAgent agent = Check.routedAgent();
        Check.send(agent, 3, 0, 8);
        agent.host(1, Check.BUSY);
        agent.tick(0);
        agent.sync();
        agent.host(1, Check.UP);
        agent.tick(9);
        Check.due("crash()", agent.crash(), 2);
        Check.due("due(1) is behind the clock", agent.due(1), 5);
        Check.due("hurry(1)", agent.hurry(1), 1);
        Check.due("due(1)", agent.due(1), 9);
    }

    /** "gap stays" */
    private static void gapStays() {
        MailAgent agent = Check.busyAgent();
        Check.send(agent, 3, 0, 8);
        agent.hurry(1);
        agent.tick(0);
        Check.due("the first gap", agent.due(1), 5);
        agent.hurry(1);
        agent.hurry(1);
        agent.tick(1);
        Check.due("the second gap", agent.due(1), 11);
        agent.hurry(1);
        agent.tick(1);
        Check.due("the third gap", agent.due(1), 21);
        agent.hurry(1);
        agent.tick(1);
        Check.due("the greatest gap", agent.due(1), 21);
    }

    private static void startStays() {
        MailAgent agent = Check.busyAgent();
        Check.send(agent, 3, 0, 8);
        agent.tick(59);
        agent.hurry(1);
        agent.tick(59);
        Check.due("it still waits", agent.status(1, 8), Check.WAITING);
        agent.hurry(1);
        agent.tick(60);
        Check.due("given up 60 after its start", agent.status(1, 3), Check.WAITING);
    }

    private static void hurriesAReport() {
        MailAgent agent = Check.busyAgent();
        Check.send(agent, 8, 0, 16);
        agent.tick(0);
        agent.tick(1);
        Check.due("due(1)", agent.due(1), 6);
        Check.due("hurry(1)", agent.hurry(1), 1);
        agent.host(1, Check.UP);
        Check.due("tick(1)", agent.tick(1), 1);
        Check.due("received(8, 1)", agent.received(8, 1), 1);
    }

    /** "No such number in the queue: UNKNOWN." */
    private static void emptyQueue() {
        MailAgent agent = Check.agent();
        for (int number : new int[] {0, 1, -1, Integer.MIN_VALUE, Integer.MAX_VALUE}) {
            Check.due("hurry(" + number + ")", agent.hurry(number), MailAgent.UNKNOWN);
        }
    }

    /** "No such number in the queue: UNKNOWN.": the first beside the least and the greatest, and far ones. */
    private static void numbersThatAreNotInTheQueue() {
        MailAgent agent = Check.agent();
        Check.send(agent, 3, 0, 1);
        Check.send(agent, 3, 0, 1);
        for (int number : new int[] {0, -1, -2, 3, 257, 65537, Integer.MIN_VALUE, Integer.MAX_VALUE}) {
            Check.due("hurry(" + number + ")", agent.hurry(number), MailAgent.UNKNOWN);
        }
        Check.due("hurry(1)", agent.hurry(1), 1);
        Check.due("hurry(2)", agent.hurry(2), 1);
    }

    /** "No such number in the queue: UNKNOWN.": it was there, or a crash has brought it back. */
    private static void numberThatHasLeft() {
        MailAgent agent = Check.agent();
        Check.send(agent, 3, 0, 1);
        agent.drop(1);
        Check.due("dropped", agent.hurry(1), MailAgent.UNKNOWN);
        agent.crash();
        Check.due("brought back", agent.hurry(1), 1);
        agent.tick(0);
        Check.due("delivered", agent.hurry(1), MailAgent.UNKNOWN);
    }

    private static void refusedChangesNothing() {
        MailAgent agent = Check.busyAgent();
        Check.send(agent, 3, 0, 8);
        agent.tick(2);
        agent.sync();
        agent.tick(3);
        agent.from(5);
        agent.to(6);
        agent.hurry(0);
        agent.hurry(2);
        Check.due("due(1)", agent.due(1), 7);
        Check.due("count(3)", agent.count(3), 0);
        Check.due("count(6)", agent.count(6), 1);
    }

    /** "CHANGES of the queue are: [...] a message put off" */
    private static void isAChange() {
        MailAgent agent = Check.busyAgent();
        Check.send(agent, 3, 0, 8);
        agent.tick(0);
        agent.sync();
        agent.hurry(1);
        Check.due("count(3)", agent.count(3), 1);
        Check.due("crash()", agent.crash(), 1);
        Check.due("due(1)", agent.due(1), 5);
        Check.makeChanges(agent, 1, 23);
        agent.hurry(1);
        Check.due("24 changes are durable", agent.count(3), 0);
        Check.due("crash()", agent.crash(), 0);
        Check.due("due(1)", agent.due(1), 0);
    }
}
