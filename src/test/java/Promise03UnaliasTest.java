/** Promise 3: unalias. */
public final class Promise03UnaliasTest {
    public static void main(String[] args) {
        answersHowManyItHad();
        takesAllGoals();
        takesThemFromThisAddressAlone();
        leavesRecipientsAsTheyAre();
        localIsZeroToSeven();
        refusedChangesNothing();
        Check.end();
    }

    /** "answers how many it had": from none to the most there can be. */
    private static void answersHowManyItHad() {
        for (int local = 0; local < 8; local++) {
            for (int goals = 0; goals <= 4; goals++) {
                MailAgent agent = Check.agent();
                for (int i = 0; i < goals; i++) {
                    agent.alias(local, 20 + i);
                }
                Check.due("unalias(" + local + ") of " + goals, agent.unalias(local), goals);
                Check.due("unalias(" + local + ") again", agent.unalias(local), 0);
            }
        }
    }

    /** "Takes all goals from a local address" */
    private static void takesAllGoals() {
        MailAgent agent = Check.agent();
        agent.alias(7, 8);
        agent.alias(7, 9);
        agent.alias(7, 10);
        Check.due("unalias(7)", agent.unalias(7), 3);
        Check.finalsAre(agent, 7, 7);
        Check.due("a goal that it had", agent.alias(7, 8), 1);
    }

    private static void takesThemFromThisAddressAlone() {
        MailAgent agent = Check.agent();
        for (int local = 0; local < 8; local++) {
            agent.alias(local, 40 + local);
        }
        agent.unalias(3);
        for (int local = 0; local < 8; local++) {
            Check.finalsAre(agent, local, local == 3 ? 3 : 40 + local);
        }
    }

    private static void leavesRecipientsAsTheyAre() {
        MailAgent agent = Check.agent();
        agent.alias(1, 2);
        agent.from(-1);
        agent.to(1);
        agent.unalias(1);
        int number = agent.data(0);
        Check.due("status of 2", agent.status(number, 2), Check.WAITING);
        Check.due("status of 1", agent.status(number, 1), 0);
    }

    /** "a local address (0 .. 7)" */
    private static void localIsZeroToSeven() {
        Check.range("unalias(n)", 0, 7, 0, local -> Check.agent().unalias(local));
        Check.due("unalias(63)", Check.agent().unalias(63), MailAgent.SYNTAX);
    }

    private static void refusedChangesNothing() {
        MailAgent agent = Check.agent();
        for (int local = 0; local < 8; local++) {
            agent.alias(local, 50);
        }
        for (int wrong : Check.outside(0, 7)) {
            agent.unalias(wrong);
        }
        for (int local = 0; local < 8; local++) {
            Check.due("unalias(" + local + ")", agent.unalias(local), 1);
        }
    }
}
