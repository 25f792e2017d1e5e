/** Promise 13: drop. */
public final class Promise13DropTest {
    public static void main(String[] args) {
        takesTheMessageOut();
        sendsNoReport();
        refusesUnknownNumbers();
        isAChange();
        Check.end();
    }

    private static void takesTheMessageOut() {
        for (int dropped = 1; dropped <= 3; dropped++) {
            MailAgent agent = Check.agent();
            for (int i = 1; i <= 3; i++) {
                Check.send(agent, 10 + i, i, i);
            }
            Check.due("drop(" + dropped + ")", agent.drop(dropped), 1);
            Check.due("drop(" + dropped + ") again", agent.drop(dropped), MailAgent.UNKNOWN);
            Check.due("count(0)", agent.count(0), 2);
            Check.due("count(1)", agent.count(1), 12 - dropped - 2);
            Check.due("sender", agent.sender(dropped), -2);
            Check.due("message(0)", agent.message(0), dropped == 1 ? 2 : 1);
            Check.due("message(1)", agent.message(1), dropped == 3 ? 2 : 3);
            Check.due("tick(0)", agent.tick(0), 2);
            Check.due("received", agent.received(dropped, 0), 0);
        }
    }

    private static void sendsNoReport() {
        MailAgent agent = Check.busyAgent();
        Check.send(agent, 3, 0, 8, 16);
        agent.tick(0);
        Check.due("status(1, 16)", agent.status(1, 16), Check.FAILED);
        Check.due("drop(1)", agent.drop(1), 1);
        Check.due("count(0)", agent.count(0), 0);
        agent.tick(60);
        Check.due("received(3, 1)", agent.received(3, 1), 0);
    }

    private static void refusesUnknownNumbers() {
        MailAgent agent = Check.agent();
        Check.due("drop(0) of an empty queue", agent.drop(0), MailAgent.UNKNOWN);
        Check.send(agent, 3, 0, 1);
        for (int number : new int[] {0, -1, 2, Integer.MIN_VALUE, Integer.MAX_VALUE}) {
            Check.due("drop(" + number + ")", agent.drop(number), MailAgent.UNKNOWN);
        }
        Check.due("count(0)", agent.count(0), 1);
        Check.due("count(3)", agent.count(3), 0);
        agent.tick(0);
        Check.due("one that has left", agent.drop(1), MailAgent.UNKNOWN);
    }

    private static void isAChange() {
        MailAgent agent = Check.agent();
        Check.send(agent, 3, 0, 1);
        Check.makeChanges(agent, 1, 22);
        agent.drop(1);
        Check.due("count(3)", agent.count(3), 23);
        agent.crash();
        Check.due("count(0)", agent.count(0), 1);
        Check.makeChanges(agent, 1, 23);
        agent.drop(1);
        Check.due("24 changes are durable", agent.count(3), 0);
        agent.crash();
        Check.due("count(0)", agent.count(0), 0);
    }
}
