/** Promise 7: from. */
public final class Promise07FromTest {
    public static void main(String[] args) {
        opensATransaction();
        takesThePlaceOfAnOpenOne();
        refusesWhatIsOutOfRange();
        Check.end();
    }

    private static void opensATransaction() {
        for (int sender : new int[] {-1, 0, 7, 8, 63}) {
            MailAgent agent = Check.agent();
            Check.due("from(" + sender + ")", agent.from(sender), 0);
            Check.due("count(6)", agent.count(6), 0);
            Check.due("data without recipients", agent.data(0), MailAgent.SEQUENCE);
            Check.due("to(3)", agent.to(3), 1);
            int number = agent.data(0);
            Check.due("sender", agent.sender(number), sender);
        }
    }

    private static void takesThePlaceOfAnOpenOne() {
        MailAgent agent = Check.agent();
        agent.from(9);
        agent.to(3);
        agent.to(4);
        Check.due("from(10)", agent.from(10), 0);
        Check.due("count(6)", agent.count(6), 0);
        Check.due("to(3)", agent.to(3), 1);
        int number = agent.data(0);
        Check.due("sender", agent.sender(number), 10);
        Check.due("status of 4", agent.status(number, 4), 0);
    }

    private static void refusesWhatIsOutOfRange() {
        MailAgent agent = Check.agent();
        for (int sender : new int[] {-2, 64, Integer.MIN_VALUE, Integer.MAX_VALUE}) {
            Check.due("from(" + sender + ")", agent.from(sender), MailAgent.SYNTAX);
        }
        Check.due("count(6)", agent.count(6), -1);
        agent.from(5);
        agent.to(1);
        Check.due("from(64) over an open one", agent.from(64), MailAgent.SYNTAX);
        Check.due("count(6)", agent.count(6), 1);
        Check.due("sender", agent.sender(agent.data(0)), 5);
    }
}
