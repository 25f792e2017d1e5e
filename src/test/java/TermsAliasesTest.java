/** Terms: goals, what is reached, and finals. */
public final class TermsAliasesTest {
    public static void main(String[] args) {
        noGoalsAtFirst();
        isReachedItself();
        goalsOfEveryLocalThatIsReached();
        longestChains();
        closedRingOfAllLocals();
        openRingOfAllLocals();
        ownGoal();
        foreignAddressesHaveNoGoals();
        foreignGoalEndsTheWay();
        twoWaysToOneFinal();
        allGoalsOfAllLocals();
        Check.end();
    }

    /** "none at first" */
    private static void noGoalsAtFirst() {
        MailAgent agent = Check.agent();
        for (int address = 0; address < 64; address++) {
            Check.finalsAre(agent, address, address);
        }
    }

    /** "From an address are REACHED: itself": it is a final if it has no goals, and none if it has one. */
    private static void isReachedItself() {
        MailAgent agent = Check.agent();
        for (int local = 0; local < 8; local++) {
            Check.finalsAre(agent, local, local);
            agent.alias(local, 40);
            Check.finalsAre(agent, local, 40);
            agent.unalias(local);
            Check.finalsAre(agent, local, local);
        }
    }

    /** "and all goals of every local address that is reached" */
    private static void goalsOfEveryLocalThatIsReached() {
        MailAgent agent = Check.agent();
        agent.alias(0, 7);
        agent.alias(0, 63);
        agent.alias(7, 3);
        agent.alias(7, 8);
        agent.alias(3, 5);
        Check.finalsAre(agent, 0, 5, 8, 63);
        Check.finalsAre(agent, 7, 5, 8);
        Check.finalsAre(agent, 3, 5);
        Check.finalsAre(agent, 5, 5);
    }

    /** All eight local addresses in one chain, rising, falling and mixed. */
    private static void longestChains() {
        int[][] chains = {{0, 1, 2, 3, 4, 5, 6, 7}, {7, 6, 5, 4, 3, 2, 1, 0}, {3, 6, 0, 7, 1, 5, 2, 4}};
        for (int[] chain : chains) {
            MailAgent agent = Check.agent();
            for (int i = 0; i < 7; i++) {
                agent.alias(chain[i], chain[i + 1]);
            }
            Check.finalsAre(agent, chain[0], chain[7]);
            agent.alias(chain[7], 50);
            for (int local : chain) {
                Check.finalsAre(agent, local, 50);
            }
        }
    }

    /** "The FINALS of an address are the reached addresses that have no goals": a closed ring has none. */
    private static void closedRingOfAllLocals() {
        MailAgent agent = ringOfAllLocals();
        agent.from(-1);
        for (int local = 0; local < 8; local++) {
            Check.due("to(" + local + ")", agent.to(local), MailAgent.UNKNOWN);
        }
        Check.due("count(6)", agent.count(6), 0);
    }

    private static void openRingOfAllLocals() {
        for (int exit = 0; exit < 8; exit++) {
            MailAgent agent = ringOfAllLocals();
            agent.alias(exit, 33);
            for (int local = 0; local < 8; local++) {
                Check.finalsAre(agent, local, 33);
            }
        }
    }

    private static void ownGoal() {
        MailAgent agent = Check.agent();
        Check.due("alias(6, 6)", agent.alias(6, 6), 1);
        agent.from(-1);
        Check.due("to(6)", agent.to(6), MailAgent.UNKNOWN);
        agent.alias(6, 10);
        Check.finalsAre(agent, 6, 10);
    }

    /** "(addresses that are not local have none)": also those that would be local in another domain's count. */
    private static void foreignAddressesHaveNoGoals() {
        MailAgent agent = Check.agent();
        for (int local = 0; local < 8; local++) {
            agent.alias(local, 60);
        }
        for (int address = 8; address < 64; address++) {
            Check.finalsAre(agent, address, address);
        }
    }

    private static void foreignGoalEndsTheWay() {
        MailAgent agent = Check.agent();
        agent.alias(1, 8);
        agent.alias(1, 10);
        agent.alias(0, 20);
        agent.alias(2, 21);
        Check.finalsAre(agent, 1, 8, 10);
    }

    private static void twoWaysToOneFinal() {
        MailAgent agent = Check.agent();
        agent.alias(1, 2);
        agent.alias(1, 3);
        agent.alias(2, 9);
        agent.alias(3, 9);
        agent.alias(1, 9);
        Check.finalsAre(agent, 1, 9);
    }

    /** Every local address has as many goals as it may have; the finals are four, then five. */
    private static void allGoalsOfAllLocals() {
        MailAgent agent = Check.agent();
        for (int local = 0; local < 7; local++) {
            Check.due("goal 1", agent.alias(local, local + 1), 1);
            Check.due("goal 2", agent.alias(local, 8), 2);
            Check.due("goal 3", agent.alias(local, 16), 3);
            Check.due("goal 4", agent.alias(local, 63), 4);
        }
        Check.finalsAre(agent, 0, 7, 8, 16, 63);
        agent.alias(7, 40);
        Check.finalsAre(agent, 0, 8, 16, 40, 63);
        agent.alias(7, 41);
        agent.from(-1);
        Check.due("five finals", agent.to(0), MailAgent.FULL);
    }

    private static MailAgent ringOfAllLocals() {
        MailAgent agent = Check.agent();
        for (int local = 0; local < 8; local++) {
            agent.alias(local, (local + 3) % 8);
        }
        return agent;
    }
}
