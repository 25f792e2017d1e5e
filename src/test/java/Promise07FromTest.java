/** Promise 7: from. */
public final class Promise07FromTest {
    public static void main(String[] args) {
        opensATransaction();
        hasNoRecipients();
        takesThePlaceOfAnOpenOne();
        takesThePlaceOfAFullOne();
        senderIsMinusOneToSixtyThree();
        refusedOpensNothing();
        refusedLeavesTheOpenOne();
        Check.end();
    }

    /** "Opens a transaction with the sender (-1 .. 63)" */
    private static void opensATransaction() {
        for (int sender = -1; sender < 64; sender++) {
            MailAgent agent = Check.agent();
            Check.due("from(" + sender + ")", agent.from(sender), 0);
            Check.due("to(3)", agent.to(3), 1);
            Check.due("sender", agent.sender(agent.data(0)), sender);
        }
    }

    /** "and no recipients" */
    private static void hasNoRecipients() {
        MailAgent agent = Check.agent();
        agent.from(5);
        Check.due("count(6)", agent.count(6), 0);
        Check.due("data without recipients", agent.data(0), MailAgent.SEQUENCE);
    }

    /** "in place of an open one" */
    private static void takesThePlaceOfAnOpenOne() {
        MailAgent agent = Check.agent();
        agent.from(9);
        agent.to(3);
        agent.to(4);
        Check.due("from(10)", agent.from(10), 0);
        Check.due("count(6)", agent.count(6), 0);
        Check.due("to(3)", agent.to(3), 1);
        int number = agent.data(0);
        Check.due("sender", agent.sender(number), 10);
        Check.due("status of 4", agent.status(number, 4), 0);
        Check.due("count(1)", agent.count(1), 2);
    }

    /** "in place of an open one", when that one has as many recipients as there can be. */
    private static void takesThePlaceOfAFullOne() {
        MailAgent agent = Check.agent();
        agent.from(9);
        for (int address = 0; address < 4; address++) {
            agent.to(address);
        }
        Check.due("from(-1)", agent.from(-1), 0);
        for (int address = 4; address < 8; address++) {
            Check.due("to(" + address + ")", agent.to(address), 1);
        }
        int number = agent.data(0);
        Check.due("sender", agent.sender(number), -1);
        for (int address = 0; address < 8; address++) {
            Check.due("status of " + address, agent.status(number, address), address < 4 ? 0 : Check.WAITING);
        }
    }

    /** "the sender (-1 .. 63)" */
    private static void senderIsMinusOneToSixtyThree() {
        Check.range("from(n)", -1, 63, 0, sender -> Check.agent().from(sender));
    }

    private static void refusedOpensNothing() {
        for (int sender : Check.outside(-1, 63)) {
            MailAgent agent = Check.agent();
            agent.from(sender);
            Check.due("count(6)", agent.count(6), -1);
            Check.due("to(1)", agent.to(1), MailAgent.SEQUENCE);
        }
    }

    private static void refusedLeavesTheOpenOne() {
        for (int sender : Check.outside(-1, 63)) {
            MailAgent agent = Check.agent();
            agent.from(5);
            agent.to(1);
            Check.due("from(" + sender + ")", agent.from(sender), MailAgent.SYNTAX);
            Check.due("count(6)", agent.count(6), 1);
            int number = agent.data(0);
            Check.due("sender", agent.sender(number), 5);
            Check.due("status of 1", agent.status(number, 1), Check.WAITING);
        }
    }
}
