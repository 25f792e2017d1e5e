/** Promise 19: due. */
public final class Promise19DueTest {
    public static void main(String[] args) {
        MailAgent agent = Check.busyAgent();
        Check.due("an empty queue", agent.due(0), -1);
        Check.send(agent, 3, 0, 8);
        Check.due("due(1)", agent.due(1), 0);
        agent.tick(7);
        Check.send(agent, 3, 0, 9);
        Check.due("put off", agent.due(1), 12);
        Check.due("accepted at 7", agent.due(2), 7);
        for (int number : new int[] {0, -1, 3, Integer.MIN_VALUE, Integer.MAX_VALUE}) {
            Check.due("due(" + number + ")", agent.due(number), -1);
        }
        agent.tick(1000000);
        Check.due("a report's due time", agent.due(1), 1000000);
        agent.tick(1000000);
        Check.due("one that has left", agent.due(1), -1);
        Check.send(agent, 3, 0, 9);
        agent.tick(1000000);
        Check.due("put off beyond the last time", agent.due(3), 1000005);
        Check.end();
    }
}
