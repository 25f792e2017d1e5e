/** Promise 17: status. */
public final class Promise17StatusTest {
    public static void main(String[] args) {
        tellsEachState();
        tellsMessagesApart();
        answersZeroOutside();
        Check.end();
    }

    private static void tellsEachState() {
        MailAgent agent = Check.busyAgent();
        Check.send(agent, 3, 0, 0, 63, 8);
        for (int address : new int[] {0, 63, 8}) {
            Check.due("before: status(1, " + address + ")", agent.status(1, address), Check.WAITING);
        }
        agent.tick(0);
        Check.due("status(1, 0)", agent.status(1, 0), Check.DELIVERED);
        Check.due("status(1, 63)", agent.status(1, 63), Check.FAILED);
        Check.due("status(1, 8)", agent.status(1, 8), Check.WAITING);
        Check.due("the sender is no recipient", agent.status(1, 3), 0);
    }

    private static void tellsMessagesApart() {
        MailAgent agent = Check.agent();
        Check.send(agent, 3, 0, 1);
        Check.send(agent, 3, 0, 2);
        Check.due("status(1, 1)", agent.status(1, 1), Check.WAITING);
        Check.due("status(1, 2)", agent.status(1, 2), 0);
        Check.due("status(2, 1)", agent.status(2, 1), 0);
        Check.due("status(2, 2)", agent.status(2, 2), Check.WAITING);
        agent.tick(0);
        Check.due("one that has left", agent.status(1, 1), 0);
    }

    private static void answersZeroOutside() {
        MailAgent agent = Check.agent();
        Check.due("an empty queue", agent.status(0, 0), 0);
        Check.send(agent, -1, 0, 0);
        for (int other : new int[] {-1, 2, 64, Integer.MIN_VALUE, Integer.MAX_VALUE}) {
            Check.due("status(" + other + ", 0)", agent.status(other, 0), 0);
            Check.due("status(1, " + other + ")", agent.status(1, other), 0);
        }
    }
}
