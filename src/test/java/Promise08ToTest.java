/** Promise 8: to. */
public final class Promise08ToTest {
    public static void main(String[] args) {
        addsTheFinals();
        addsOnlyThoseThatAreNotThereYet();
        addsNoneTwice();
        noneIsOpenAtFirst();
        noneIsOpenAfterData();
        noneIsOpenAfterACrash();
        addressWithoutFinals();
        fourAtOnceAreNotTooMany();
        fiveAtOnceAreTooMany();
        aFifthIsTooMany();
        countsOnlyNewOnesForTheRoom();
        addressIsZeroToSixtyThree();
        testsInTheToldOrder();
        refusedChangesNothing();
        Check.end();
    }

    /** "Adds [...] those finals of the address" and "answers how many were added" */
    private static void addsTheFinals() {
        for (int address = 0; address < 64; address++) {
            MailAgent agent = Check.agent();
            agent.from(-1);
            Check.due("to(" + address + ")", agent.to(address), 1);
            recipientsAre(agent, address);
        }
        MailAgent agent = Check.agent();
        agent.alias(5, 63);
        agent.alias(5, 8);
        agent.alias(5, 2);
        agent.from(-1);
        Check.due("to(5)", agent.to(5), 3);
        recipientsAre(agent, 2, 8, 63);
    }

    /** "that are no recipients of the transaction yet" */
    private static void addsOnlyThoseThatAreNotThereYet() {
        MailAgent agent = Check.agent();
        agent.alias(1, 2);
        agent.alias(1, 9);
        agent.alias(1, 3);
        agent.from(-1);
        Check.due("to(9)", agent.to(9), 1);
        Check.due("to(3)", agent.to(3), 1);
        Check.due("to(1)", agent.to(1), 1);
        recipientsAre(agent, 2, 3, 9);
    }

    /** When all are there already, none is added and that is no refusal: 0. */
    private static void addsNoneTwice() {
        MailAgent agent = Check.agent();
        agent.alias(1, 2);
        agent.from(-1);
        Check.due("to(2)", agent.to(2), 1);
        Check.due("to(2) again", agent.to(2), 0);
        Check.due("to(1), whose final is 2", agent.to(1), 0);
        Check.due("count(6)", agent.count(6), 1);
        recipientsAre(agent, 2);
    }

    /** "None is open: SEQUENCE." */
    private static void noneIsOpenAtFirst() {
        for (int address : new int[] {0, 7, 8, 63}) {
            MailAgent agent = Check.agent();
            Check.due("to(" + address + ")", agent.to(address), MailAgent.SEQUENCE);
            Check.due("count(6)", agent.count(6), -1);
        }
    }

    /** "None is open: SEQUENCE.": data has closed it. */
    private static void noneIsOpenAfterData() {
        MailAgent agent = Check.agent();
        Check.send(agent, -1, 0, 1);
        Check.due("to(2)", agent.to(2), MailAgent.SEQUENCE);
        Check.due("to(1)", agent.to(1), MailAgent.SEQUENCE);
    }

    /** "None is open: SEQUENCE.": a crash has closed it. */
    private static void noneIsOpenAfterACrash() {
        MailAgent agent = Check.agent();
        agent.from(3);
        agent.to(1);
        agent.crash();
        Check.due("to(2)", agent.to(2), MailAgent.SEQUENCE);
        agent.from(3);
        Check.due("to(1) is new again", agent.to(1), 1);
    }

    /** "The address has no finals: UNKNOWN." */
    private static void addressWithoutFinals() {
        MailAgent agent = Check.agent();
        agent.alias(3, 3);
        agent.alias(1, 2);
        agent.alias(2, 1);
        agent.alias(4, 3);
        agent.from(-1);
        Check.due("its own goal", agent.to(3), MailAgent.UNKNOWN);
        Check.due("a closed ring", agent.to(1), MailAgent.UNKNOWN);
        Check.due("a way into such an address", agent.to(4), MailAgent.UNKNOWN);
        agent.alias(2, 9);
        Check.due("a ring with a way out", agent.to(1), 1);
        recipientsAre(agent, 9);
    }

    /** "More than 4 recipients would be there: FULL.": 4 are not more than 4. */
    private static void fourAtOnceAreNotTooMany() {
        MailAgent agent = Check.agent();
        for (int i = 0; i < 4; i++) {
            agent.alias(1, 20 + i);
        }
        agent.from(-1);
        Check.due("four finals", agent.to(1), 4);
        recipientsAre(agent, 20, 21, 22, 23);
    }

    /** "More than 4 recipients would be there: FULL." */
    private static void fiveAtOnceAreTooMany() {
        MailAgent agent = Check.agent();
        agent.alias(1, 2);
        agent.alias(1, 20);
        agent.alias(1, 21);
        for (int i = 0; i < 3; i++) {
            agent.alias(2, 30 + i);
        }
        agent.from(-1);
        Check.due("five finals", agent.to(1), MailAgent.FULL);
        Check.due("none was added", agent.count(6), 0);
        Check.due("three finals", agent.to(2), 3);
        recipientsAre(agent, 30, 31, 32);
    }

    /** "More than 4 recipients would be there: FULL." */
    private static void aFifthIsTooMany() {
        MailAgent agent = agentWithFourRecipients();
        for (int address : new int[] {0, 7, 14, 63}) {
            Check.due("a fifth one, " + address, agent.to(address), MailAgent.FULL);
        }
        Check.due("count(6)", agent.count(6), 4);
        recipientsAre(agent, 10, 11, 12, 13);
    }

    /** Those that are recipients already take no room a second time. */
    private static void countsOnlyNewOnesForTheRoom() {
        MailAgent agent = Check.agent();
        agent.alias(1, 10);
        agent.alias(1, 11);
        agent.alias(1, 20);
        agent.alias(2, 20);
        agent.alias(2, 21);
        agent.from(-1);
        agent.to(10);
        agent.to(11);
        agent.to(12);
        Check.due("two more than three", agent.to(2), MailAgent.FULL);
        Check.due("count(6)", agent.count(6), 3);
        Check.due("one new and two old finals", agent.to(1), 1);
        Check.due("three old finals, with four recipients", agent.to(1), 0);
        Check.due("one of the four", agent.to(12), 0);
        Check.due("one new and one old final", agent.to(2), MailAgent.FULL);
        recipientsAre(agent, 10, 11, 12, 20);
    }

    /** "the address (0 .. 63)" */
    private static void addressIsZeroToSixtyThree() {
        Check.range("to(n)", 0, 63, 1, address -> {
            MailAgent agent = Check.agent();
            agent.from(-1);
            return agent.to(address);
        });
    }

    /** "and that is tested before all else"; then as the promise tells it. */
    private static void testsInTheToldOrder() {
        MailAgent agent = Check.agent();
        agent.alias(1, 1);
        Check.due("SYNTAX before SEQUENCE", agent.to(64), MailAgent.SYNTAX);
        Check.due("SYNTAX before SEQUENCE", agent.to(-1), MailAgent.SYNTAX);
        Check.due("SEQUENCE before UNKNOWN", agent.to(1), MailAgent.SEQUENCE);
        MailAgent full = agentWithFourRecipients();
        full.alias(1, 1);
        Check.due("UNKNOWN before FULL", full.to(1), MailAgent.UNKNOWN);
        Check.due("SYNTAX before FULL", full.to(64), MailAgent.SYNTAX);
    }

    private static void refusedChangesNothing() {
        MailAgent agent = Check.agent();
        agent.alias(1, 1);
        agent.alias(2, 30);
        agent.alias(2, 31);
        agent.from(7);
        agent.to(10);
        agent.to(11);
        agent.to(12);
        agent.to(1);
        agent.to(2);
        for (int wrong : Check.outside(0, 63)) {
            agent.to(wrong);
        }
        Check.due("count(6)", agent.count(6), 3);
        recipientsAre(agent, 10, 11, 12);
        Check.due("sender(1)", agent.sender(1), 7);
    }

    private static MailAgent agentWithFourRecipients() {
        MailAgent agent = Check.agent();
        agent.from(-1);
        for (int address = 10; address < 14; address++) {
            Check.due("to(" + address + ")", agent.to(address), 1);
        }
        return agent;
    }

    /** Accepts the transaction and looks at the state of every address. */
    private static void recipientsAre(MailAgent agent, int... addresses) {
        int number = agent.data(0);
        Check.isTrue("the message is accepted", number > 0);
        for (int address = 0; address < 64; address++) {
            int want = 0;
            for (int recipient : addresses) {
                want = recipient == address ? Check.WAITING : want;
            }
            Check.due("status(" + number + ", " + address + ")", agent.status(number, address), want);
        }
    }
}
