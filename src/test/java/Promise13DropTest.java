/** Promise 13: drop. */
public final class Promise13DropTest {
    public static void main(String[] args) {
        takesTheMessageOut();
        emptiesAFullQueue();
        takesAReportOut();
        sendsNoReport();
        emptyQueue();
        numbersThatAreNotInTheQueue();
        numberThatHasLeft();
        refusedChangesNothing();
        isAChange();
        Check.end();
    }

    /** "The message leaves the queue [...]: 1." */
    private static void takesTheMessageOut() {
        for (int dropped = 1; dropped <= 3; dropped++) {
            MailAgent agent = Check.agent();
            for (int i = 1; i <= 3; i++) {
                Check.send(agent, 10 + i, i, i);
            }
            Check.due("drop(" + dropped + ")", agent.drop(dropped), 1);
            Check.due("drop(" + dropped + ") again", agent.drop(dropped), MailAgent.UNKNOWN);
            Check.due("count(0)", agent.count(0), 2);
            Check.due("count(1)", agent.count(1), 12 - dropped - 2);
            Check.due("sender", agent.sender(dropped), -2);
            Check.due("message(0)", agent.message(0), dropped == 1 ? 2 : 1);
            Check.due("message(1)", agent.message(1), dropped == 3 ? 2 : 3);
            Check.due("tick(0)", agent.tick(0), 2);
            Check.due("received", agent.received(dropped, 0), 0);
        }
    }

    private static void emptiesAFullQueue() {
        int[][] orders = {{1, 2, 3, 4, 5, 6}, {6, 5, 4, 3, 2, 1}, {4, 1, 6, 3, 2, 5}};
        for (int[] order : orders) {
            MailAgent agent = Check.agent();
            for (int i = 1; i <= 6; i++) {
                Check.send(agent, 10 + i, i, i);
            }
            int left = 6;
            for (int number : order) {
                Check.due("drop(" + number + ")", agent.drop(number), 1);
                left--;
                Check.due("count(0)", agent.count(0), left);
                Check.due("status", agent.status(number, number), 0);
            }
            Check.due("message(0)", agent.message(0), 0);
            Check.due("count(1)", agent.count(1), 0);
            Check.due("count(2)", agent.count(2), 0);
            Check.due("the next number", Check.send(agent, 1, 0, 1), 7);
        }
    }

    private static void takesAReportOut() {
        MailAgent agent = Check.agent();
        Check.send(agent, 3, 0, 8);
        agent.tick(0);
        Check.due("drop(1)", agent.drop(1), 1);
        Check.due("count(0)", agent.count(0), 0);
        Check.due("tick(1)", agent.tick(1), 0);
        Check.due("received(3, 1)", agent.received(3, 1), 0);
    }

    /** "without a report" */
    private static void sendsNoReport() {
        MailAgent agent = Check.busyAgent();
        Check.send(agent, 3, 0, 8, 16);
        agent.tick(0);
        Check.due("status(1, 16)", agent.status(1, 16), Check.FAILED);
        Check.due("drop(1)", agent.drop(1), 1);
        Check.due("count(0)", agent.count(0), 0);
        agent.tick(60);
        Check.due("received(3, 1)", agent.received(3, 1), 0);
    }

    /** "No such number in the queue: UNKNOWN." */
    private static void emptyQueue() {
        MailAgent agent = Check.agent();
        for (int number : new int[] {0, 1, -1, Integer.MIN_VALUE, Integer.MAX_VALUE}) {
            Check.due("drop(" + number + ")", agent.drop(number), MailAgent.UNKNOWN);
        }
    }

    /** "No such number in the queue: UNKNOWN.": the first beside the least and the greatest, and far ones. */
    private static void numbersThatAreNotInTheQueue() {
        MailAgent agent = Check.agent();
        Check.send(agent, 3, 0, 1);
        Check.send(agent, 3, 0, 1);
        for (int number : new int[] {0, -1, -2, 3, 257, 65537, Integer.MIN_VALUE, Integer.MAX_VALUE}) {
            Check.due("drop(" + number + ")", agent.drop(number), MailAgent.UNKNOWN);
        }
        Check.due("drop(2)", agent.drop(2), 1);
        Check.due("drop(1)", agent.drop(1), 1);
    }

    /** "No such number in the queue: UNKNOWN.": it was there, or a crash has brought it back. */
    private static void numberThatHasLeft() {
        MailAgent agent = Check.agent();
        Check.send(agent, 3, 0, 1);
        agent.tick(0);
        Check.due("delivered", agent.drop(1), MailAgent.UNKNOWN);
        agent.crash();
        Check.due("brought back", agent.drop(1), 1);
        Check.due("dropped", agent.drop(1), MailAgent.UNKNOWN);
        agent.sync();
        agent.crash();
        Check.due("dropped for good", agent.drop(1), MailAgent.UNKNOWN);
    }

    private static void refusedChangesNothing() {
        MailAgent agent = Check.agent();
        Check.send(agent, 3, 0, 1);
        agent.hurry(1);
        agent.from(5);
        agent.to(6);
        agent.drop(0);
        agent.drop(2);
        Check.due("count(0)", agent.count(0), 1);
        Check.due("count(3)", agent.count(3), 1);
        Check.due("count(6)", agent.count(6), 1);
        Check.due("status(1, 1)", agent.status(1, 1), Check.WAITING);
    }

    /** "CHANGES of the queue are: [...] one that leaves." */
    private static void isAChange() {
        MailAgent agent = Check.agent();
        Check.send(agent, 3, 0, 1);
        Check.makeChanges(agent, 1, 22);
        agent.drop(1);
        Check.due("count(3)", agent.count(3), 23);
        agent.crash();
        Check.due("count(0)", agent.count(0), 1);
        Check.makeChanges(agent, 1, 23);
        agent.drop(1);
        Check.due("24 changes are durable", agent.count(3), 0);
        agent.crash();
        Check.due("count(0)", agent.count(0), 0);
    }
}
