/** Promise 18: sender. */
public final class Promise18SenderTest {
    public static void main(String[] args) {
        MailAgent agent = Check.agent();
        Check.due("an empty queue", agent.sender(0), -2);
        Check.send(agent, 63, 0, 8);
        Check.send(agent, -1, 0, 1);
        Check.send(agent, 0, 0, 1);
        Check.due("sender(1)", agent.sender(1), 63);
        Check.due("sender(2)", agent.sender(2), -1);
        Check.due("sender(3)", agent.sender(3), 0);
        for (int number : new int[] {0, -1, 4, Integer.MIN_VALUE, Integer.MAX_VALUE}) {
            Check.due("sender(" + number + ")", agent.sender(number), -2);
        }
        agent.tick(0);
        Check.due("a report's sender", agent.sender(1), -1);
        Check.due("one that has left", agent.sender(2), -2);
        Check.end();
    }
}
