/** Promise 8: to, and the finals of an address. */
public final class Promise08ToTest {
    public static void main(String[] args) {
        addsAnAddressWithoutGoals();
        followsChains();
        followsLongestChain();
        followsCycles();
        doesNotFollowForeignAddresses();
        addsOnlyNewOnes();
        tellsWhatIsMissing();
        refusesMoreThanFour();
        testsInTheToldOrder();
        Check.end();
    }

    private static void addsAnAddressWithoutGoals() {
        for (int address : new int[] {0, 7, 8, 31, 32, 63}) {
            MailAgent agent = Check.agent();
            agent.from(-1);
            Check.due("to(" + address + ")", agent.to(address), 1);
            Check.due("to(" + address + ") again", agent.to(address), 0);
            Check.due("count(6)", agent.count(6), 1);
            recipientsAre(agent, address);
        }
    }

    private static void followsChains() {
        MailAgent agent = Check.agent();
        agent.alias(5, 4);
        agent.alias(5, 3);
        agent.alias(4, 63);
        agent.alias(3, 8);
        agent.alias(3, 2);
        agent.from(-1);
        Check.due("to(5)", agent.to(5), 3);
        recipientsAre(agent, 2, 8, 63);
    }

    private static void followsLongestChain() {
        MailAgent rising = Check.agent();
        MailAgent falling = Check.agent();
        for (int i = 0; i < 7; i++) {
            rising.alias(i, i + 1);
            falling.alias(7 - i, 6 - i);
        }
        rising.alias(7, 50);
        falling.alias(0, 50);
        rising.from(-1);
        falling.from(-1);
        Check.due("to(0)", rising.to(0), 1);
        Check.due("to(7)", falling.to(7), 1);
        recipientsAre(rising, 50);
        recipientsAre(falling, 50);
    }

    private static void followsCycles() {
        MailAgent agent = Check.agent();
        agent.alias(1, 2);
        agent.alias(2, 1);
        agent.from(-1);
        Check.due("a closed cycle", agent.to(1), MailAgent.UNKNOWN);
        agent.alias(3, 3);
        Check.due("an address that is its own goal", agent.to(3), MailAgent.UNKNOWN);
        Check.due("count(6)", agent.count(6), 0);
        agent.alias(2, 9);
        agent.alias(3, 10);
        Check.due("a cycle with a way out", agent.to(1), 1);
        Check.due("its own goal and another", agent.to(3), 1);
        recipientsAre(agent, 9, 10);
    }

    private static void doesNotFollowForeignAddresses() {
        MailAgent agent = Check.agent();
        agent.alias(1, 2);
        agent.from(-1);
        Check.due("to(9)", agent.to(9), 1);
        recipientsAre(agent, 9);
    }

    private static void addsOnlyNewOnes() {
        MailAgent agent = Check.agent();
        agent.alias(1, 2);
        agent.alias(1, 9);
        agent.alias(1, 3);
        agent.from(-1);
        Check.due("to(9)", agent.to(9), 1);
        Check.due("to(3)", agent.to(3), 1);
        Check.due("to(1)", agent.to(1), 1);
        Check.due("to(1) again", agent.to(1), 0);
        recipientsAre(agent, 2, 3, 9);
    }

    private static void tellsWhatIsMissing() {
        MailAgent agent = Check.agent();
        Check.due("to without from", agent.to(1), MailAgent.SEQUENCE);
        for (int address : new int[] {-1, 64, Integer.MIN_VALUE, Integer.MAX_VALUE}) {
            Check.due("to(" + address + ")", agent.to(address), MailAgent.SYNTAX);
        }
        agent.from(-1);
        agent.to(1);
        agent.data(0);
        Check.due("to after data", agent.to(1), MailAgent.SEQUENCE);
    }

    private static void refusesMoreThanFour() {
        MailAgent agent = Check.agent();
        agent.alias(1, 20);
        agent.alias(1, 21);
        agent.from(-1);
        agent.to(10);
        agent.to(11);
        agent.to(12);
        Check.due("two more than three", agent.to(1), MailAgent.FULL);
        Check.due("count(6)", agent.count(6), 3);
        Check.due("to(20)", agent.to(20), 1);
        Check.due("a fifth one", agent.to(13), MailAgent.FULL);
        Check.due("one of the four", agent.to(12), 0);
        recipientsAre(agent, 10, 11, 12, 20);
        fivePlainFinals();
    }

    private static void fivePlainFinals() {
        MailAgent agent = Check.agent();
        agent.alias(1, 2);
        for (int i = 0; i < 3; i++) {
            agent.alias(1, 20 + i);
            agent.alias(2, 30 + i);
        }
        agent.from(-1);
        Check.due("six finals", agent.to(1), MailAgent.FULL);
        Check.due("count(6)", agent.count(6), 0);
    }

    private static void testsInTheToldOrder() {
        MailAgent agent = Check.agent();
        agent.alias(1, 1);
        Check.due("SEQUENCE before UNKNOWN", agent.to(1), MailAgent.SEQUENCE);
        agent.from(-1);
        for (int address = 10; address < 14; address++) {
            agent.to(address);
        }
        Check.due("UNKNOWN with four recipients", agent.to(1), MailAgent.UNKNOWN);
        Check.due("SYNTAX with four recipients", agent.to(64), MailAgent.SYNTAX);
    }

    /** Accepts the transaction and looks at the state of every address. */
    private static void recipientsAre(MailAgent agent, int... addresses) {
        int number = agent.data(0);
        Check.isTrue("the message is accepted", number > 0);
        for (int address = 0; address < 64; address++) {
            int want = 0;
            for (int recipient : addresses) {
                want = recipient == address ? Check.WAITING : want;
            }
            Check.due("status(" + number + ", " + address + ")", agent.status(number, address), want);
        }
    }
}
