/** Promise 19: due. */
public final class Promise19DueTest {
    public static void main(String[] args) {
        tellsTheDueTime();
        dueTimeOfAReport();
        dueTimeBeyondTheLastTime();
        emptyQueue();
        numberIsNotInTheQueue();
        numberHasLeft();
        Check.end();
    }

    /** "The due time of the message with this number" */
    private static void tellsTheDueTime() {
        MailAgent agent = Check.busyAgent();
        Check.send(agent, 3, 0, 8);
        Check.due("the least there can be", agent.due(1), 0);
        agent.tick(7);
        Check.send(agent, 3, 0, 9);
        Check.due("put off", agent.due(1), 12);
        Check.due("accepted at 7", agent.due(2), 7);
    }

    private static void dueTimeOfAReport() {
        MailAgent agent = Check.agent();
        Check.send(agent, 3, 0, 8);
        agent.tick(1000000);
        Check.due("due(1)", agent.due(1), 1000000);
    }

    private static void dueTimeBeyondTheLastTime() {
        MailAgent agent = new MailAgent(60, 600, 6000);
        agent.route(1, 1, 1);
        agent.host(1, Check.BUSY);
        agent.tick(1000000);
        Check.send(agent, 3, 0, 8);
        for (int gap : new int[] {60, 120, 240, 480, 600, 600}) {
            agent.tick(1000000);
            Check.due("due(1)", agent.due(1), 1000000 + gap);
            agent.hurry(1);
        }
    }

    /** "-1 if it is not in the queue" */
    private static void emptyQueue() {
        MailAgent agent = Check.agent();
        for (int number : new int[] {0, 1, -1, Integer.MIN_VALUE, Integer.MAX_VALUE}) {
            Check.due("due(" + number + ")", agent.due(number), -1);
        }
    }

    /** "-1 if it is not in the queue": the first beside the least and the greatest, and far ones. */
    private static void numberIsNotInTheQueue() {
        MailAgent agent = Check.agent();
        Check.send(agent, 7, 0, 1);
        Check.send(agent, 7, 0, 1);
        for (int number : new int[] {0, -1, 3, 257, 65537, Integer.MIN_VALUE, Integer.MAX_VALUE}) {
            Check.due("due(" + number + ")", agent.due(number), -1);
        }
    }

    /** "-1 if it is not in the queue": it was there. */
    private static void numberHasLeft() {
        MailAgent agent = Check.agent();
        agent.tick(4);
        Check.send(agent, 7, 0, 1);
        Check.send(agent, 7, 0, 1);
        agent.drop(2);
        Check.due("dropped", agent.due(2), -1);
        agent.tick(4);
        Check.due("delivered", agent.due(1), -1);
        agent.crash();
        Check.due("brought back", agent.due(1), 4);
        Check.due("brought back", agent.due(2), 4);
    }
}
