/** Promise 17: status. */
public final class Promise17StatusTest {
    public static void main(String[] args) {
        tellsEachState();
        tellsMessagesApart();
        emptyQueue();
        numberIsNotInTheQueue();
        numberHasLeft();
        addressIsNoRecipient();
        addressIsNone();
        reportHasOneRecipient();
        Check.end();
    }

    /** "(1 WAITING, 2 DELIVERED, 3 FAILED)" */
    private static void tellsEachState() {
        MailAgent agent = Check.busyAgent();
        Check.send(agent, 3, 0, 0, 63, 8);
        for (int address : new int[] {0, 63, 8}) {
            Check.due("before: status(1, " + address + ")", agent.status(1, address), 1);
        }
        agent.tick(0);
        Check.due("status(1, 0)", agent.status(1, 0), 2);
        Check.due("status(1, 63)", agent.status(1, 63), 3);
        Check.due("status(1, 8)", agent.status(1, 8), 1);
    }

    private static void tellsMessagesApart() {
        MailAgent agent = Check.agent();
        Check.send(agent, 3, 0, 1);
        Check.send(agent, 3, 0, 2);
        Check.due("status(1, 1)", agent.status(1, 1), Check.WAITING);
        Check.due("status(1, 2)", agent.status(1, 2), 0);
        Check.due("status(2, 1)", agent.status(2, 1), 0);
        Check.due("status(2, 2)", agent.status(2, 2), Check.WAITING);
    }

    /** "0 if the number is not in the queue" */
    private static void emptyQueue() {
        MailAgent agent = Check.agent();
        for (int number : new int[] {0, 1, -1, Integer.MIN_VALUE, Integer.MAX_VALUE}) {
            Check.due("status(" + number + ", 0)", agent.status(number, 0), 0);
        }
    }

    /** "0 if the number is not in the queue": the first beside the least and the greatest, and far ones. */
    private static void numberIsNotInTheQueue() {
        MailAgent agent = Check.agent();
        Check.send(agent, -1, 0, 0);
        for (int number : new int[] {0, -1, 2, 257, 65537, Integer.MIN_VALUE, Integer.MAX_VALUE}) {
            Check.due("status(" + number + ", 0)", agent.status(number, 0), 0);
        }
    }

    /** "0 if the number is not in the queue": it was there. */
    private static void numberHasLeft() {
        MailAgent agent = Check.agent();
        Check.send(agent, -1, 0, 1);
        Check.send(agent, -1, 0, 2);
        agent.drop(2);
        Check.due("dropped", agent.status(2, 2), 0);
        agent.tick(0);
        Check.due("delivered", agent.status(1, 1), 0);
    }

    /** "or the address is no recipient": neither beside the recipients nor the sender nor one of a transaction. */
    private static void addressIsNoRecipient() {
        MailAgent agent = Check.agent();
        Check.send(agent, 3, 0, 0, 10, 63);
        agent.from(20);
        agent.to(21);
        for (int address : new int[] {1, 3, 9, 11, 20, 21, 62}) {
            Check.due("status(1, " + address + ")", agent.status(1, address), 0);
        }
        Check.due("status(1, 0)", agent.status(1, 0), Check.WAITING);
        Check.due("status(1, 10)", agent.status(1, 10), Check.WAITING);
        Check.due("status(1, 63)", agent.status(1, 63), Check.WAITING);
    }

    /** "or the address is no recipient": the promise names no range, so what is no address is no recipient. */
    private static void addressIsNone() {
        MailAgent agent = Check.agent();
        Check.send(agent, -1, 0, 0, 63);
        for (int address : Check.outside(0, 63)) {
            Check.due("status(1, " + address + ")", agent.status(1, address), 0);
        }
    }

    private static void reportHasOneRecipient() {
        MailAgent agent = Check.agent();
        Check.send(agent, 3, 0, 8, 9, 10, 11);
        agent.tick(0);
        for (int address = 0; address < 64; address++) {
            Check.due("status(1, " + address + ")", agent.status(1, address), address == 3 ? Check.WAITING : 0);
        }
    }
}
