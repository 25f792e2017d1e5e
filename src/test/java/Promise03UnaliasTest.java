/** Promise 3: unalias. */
public final class Promise03UnaliasTest {
    public static void main(String[] args) {
        takesAllGoals();
        leavesRecipientsAsTheyAre();
        refusesWhatIsOutOfRange();
        Check.end();
    }

    private static void takesAllGoals() {
        MailAgent agent = Check.agent();
        agent.alias(7, 8);
        agent.alias(7, 9);
        agent.alias(7, 10);
        agent.alias(0, 8);
        Check.due("unalias(7)", agent.unalias(7), 3);
        Check.due("unalias(7) again", agent.unalias(7), 0);
        agent.from(-1);
        Check.due("to(7)", agent.to(7), 1);
        Check.due("count(6)", agent.count(6), 1);
        int number = agent.data(0);
        Check.due("status of 7", agent.status(number, 7), Check.WAITING);
        Check.due("status of 8", agent.status(number, 8), 0);
        Check.due("unalias(0)", agent.unalias(0), 1);
    }

    private static void leavesRecipientsAsTheyAre() {
        MailAgent agent = Check.agent();
        agent.alias(1, 2);
        agent.from(-1);
        agent.to(1);
        agent.unalias(1);
        int number = agent.data(0);
        Check.due("status of 2", agent.status(number, 2), Check.WAITING);
        Check.due("status of 1", agent.status(number, 1), 0);
    }

    private static void refusesWhatIsOutOfRange() {
        MailAgent agent = Check.agent();
        for (int local : new int[] {-1, 8, 63, Integer.MIN_VALUE, Integer.MAX_VALUE}) {
            Check.due("unalias(" + local + ")", agent.unalias(local), MailAgent.SYNTAX);
        }
    }
}
