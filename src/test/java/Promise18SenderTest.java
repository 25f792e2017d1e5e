/** Promise 18: sender. */
public final class Promise18SenderTest {
    public static void main(String[] args) {
        tellsTheSender();
        reportIsOfNobody();
        emptyQueue();
        numberIsNotInTheQueue();
        numberHasLeft();
        Check.end();
    }

    /** "The sender of the message with this number": the least, the greatest, and nobody. */
    private static void tellsTheSender() {
        MailAgent agent = Check.agent();
        Check.send(agent, 63, 0, 8);
        Check.send(agent, -1, 0, 1);
        Check.send(agent, 0, 0, 1);
        agent.from(5);
        Check.due("sender(1)", agent.sender(1), 63);
        Check.due("sender(2)", agent.sender(2), -1);
        Check.due("sender(3)", agent.sender(3), 0);
    }

    private static void reportIsOfNobody() {
        MailAgent agent = Check.agent();
        Check.send(agent, 63, 0, 8);
        agent.tick(0);
        Check.due("sender(1)", agent.sender(1), -1);
    }

    /** "-2 if it is not in the queue" */
    private static void emptyQueue() {
        MailAgent agent = Check.agent();
        for (int number : new int[] {0, 1, -1, Integer.MIN_VALUE, Integer.MAX_VALUE}) {
            Check.due("sender(" + number + ")", agent.sender(number), -2);
        }
    }

    /** "-2 if it is not in the queue": the first beside the least and the greatest, and far ones. */
    private static void numberIsNotInTheQueue() {
        MailAgent agent = Check.agent();
        Check.send(agent, 7, 0, 1);
        Check.send(agent, 7, 0, 1);
        for (int number : new int[] {0, -1, -2, 3, 257, 65537, Integer.MIN_VALUE, Integer.MAX_VALUE}) {
            Check.due("sender(" + number + ")", agent.sender(number), -2);
        }
    }

    /** "-2 if it is not in the queue": it was there. */
    private static void numberHasLeft() {
        MailAgent agent = Check.agent();
        Check.send(agent, 7, 0, 1);
        Check.send(agent, 7, 0, 1);
        agent.drop(2);
        Check.due("dropped", agent.sender(2), -2);
        agent.tick(0);
        Check.due("delivered", agent.sender(1), -2);
        agent.crash();
        Check.due("brought back", agent.sender(1), 7);
        Check.due("brought back", agent.sender(2), 7);
    }
}
