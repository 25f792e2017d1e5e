/** Terms: the clock, the numbers of messages, what a message has, what it costs, and the transaction. */
public final class TermsQueueTest {
    public static void main(String[] args) {
        clockIsZeroAtFirst();
        messagesAreNumberedFromOne();
        numbersAreNotUsedAgain();
        queueHoldsUpToSix();
        messageHasOneToFourRecipients();
        recipientsAreDifferent();
        costIsSizeAndRecipientsAndOne();
        costsTogetherAreAtMostSixty();
        reportsKeepTheCostsBelowSixty();
        transactionIsNotOpenAtFirst();
        transactionHasUpToFourRecipients();
        Check.end();
    }

    /** "THE CLOCK is 0 at first." */
    private static void clockIsZeroAtFirst() {
        MailAgent agent = Check.agent();
        Check.due("count(4)", agent.count(4), 0);
        Check.send(agent, -1, 0, 1);
        Check.due("due(1)", agent.due(1), 0);
        Check.due("tick(-1)", agent.tick(-1), MailAgent.SYNTAX);
        Check.due("tick(0)", agent.tick(0), 1);
    }

    /** "MESSAGES are numbered 1, 2, .. as they are accepted." */
    private static void messagesAreNumberedFromOne() {
        MailAgent agent = Check.agent();
        for (int number = 1; number <= 60; number++) {
            Check.due("number", Check.send(agent, -1, 0, 1), number);
            agent.tick(0);
        }
    }

    private static void numbersAreNotUsedAgain() {
        MailAgent agent = Check.agent();
        Check.due("the first", Check.send(agent, 3, 0, 8), 1);
        agent.tick(0);
        Check.due("the report has its number", agent.message(0), 1);
        Check.due("the second", Check.send(agent, 3, 0, 8), 2);
        agent.drop(2);
        agent.crash();
        agent.drop(2);
        agent.drop(1);
        agent.sync();
        Check.due("the third", Check.send(agent, 3, 0, 8), 3);
    }

    /** "The QUEUE holds up to 6 messages." */
    private static void queueHoldsUpToSix() {
        MailAgent agent = Check.agent();
        for (int number = 1; number <= 6; number++) {
            Check.due("number", Check.send(agent, -1, 0, 1), number);
        }
        Check.due("a seventh", Check.send(agent, -1, 0, 1), MailAgent.FULL);
        Check.due("count(0)", agent.count(0), 6);
    }

    /** "1 to 4 RECIPIENTS" */
    private static void messageHasOneToFourRecipients() {
        MailAgent agent = Check.agent();
        agent.from(-1);
        Check.due("none", agent.data(0), MailAgent.SEQUENCE);
        Check.due("one", Check.send(agent, -1, 0, 1), 1);
        Check.due("two", Check.send(agent, -1, 0, 1, 2), 2);
        Check.due("three", Check.send(agent, -1, 0, 1, 2, 3), 3);
        Check.due("four", Check.send(agent, -1, 0, 1, 2, 3, 4), 4);
        Check.due("count(2)", agent.count(2), 10);
        Check.due("all are delivered", agent.tick(0), 10);
    }

    /** "(different addresses, in an order)" */
    private static void recipientsAreDifferent() {
        MailAgent agent = Check.agent();
        agent.from(-1);
        agent.to(1);
        agent.to(1);
        agent.to(2);
        agent.to(1);
        agent.data(0);
        Check.due("count(1)", agent.count(1), 3);
        Check.due("tick(0)", agent.tick(0), 2);
        Check.due("received(1, 0)", agent.received(1, 0), 1);
    }

    /** "Its cost is size + recipients + 1": the ends of the sizes with the ends of the recipients. */
    private static void costIsSizeAndRecipientsAndOne() {
        int[][] recipients = {{1}, {1, 2}, {1, 2, 3}, {1, 2, 3, 4}};
        for (int[] addresses : recipients) {
            for (int size : new int[] {0, 1, 39, 40}) {
                MailAgent agent = Check.agent();
                Check.send(agent, -1, size, addresses);
                Check.due("size " + size + " to " + addresses.length, agent.count(1), size + addresses.length + 1);
            }
        }
    }

    /** "the queue's costs together are at most 60": all that can be added to each cost that can be there. */
    private static void costsTogetherAreAtMostSixty() {
        for (int first = 0; first <= 40; first++) {
            for (int second = 0; second <= 40; second++) {
                MailAgent agent = Check.agent();
                Check.send(agent, -1, first, 1, 2);
                int cost = first + 3 + second + 2;
                Check.due("costs of " + cost, Check.send(agent, -1, second, 1), cost <= 60 ? 2 : MailAgent.FULL);
                Check.due("count(1)", agent.count(1), cost <= 60 ? cost : first + 3);
            }
        }
    }

    private static void reportsKeepTheCostsBelowSixty() {
        MailAgent agent = Check.agent();
        for (int i = 0; i < 6; i++) {
            Check.send(agent, 3, 5, 8, 9, 10, 11);
        }
        Check.due("count(1)", agent.count(1), 60);
        agent.tick(0);
        Check.due("count(0)", agent.count(0), 6);
        Check.due("count(1)", agent.count(1), 12);
        Check.due("a seventh", Check.send(agent, 3, 0, 1), MailAgent.FULL);
        Check.due("the reports are delivered", agent.tick(0), 6);
        Check.due("now there is room", agent.data(40), 7);
    }

    /** "it is not open at first" */
    private static void transactionIsNotOpenAtFirst() {
        MailAgent agent = Check.agent();
        Check.due("count(6)", agent.count(6), -1);
        Check.due("to(0)", agent.to(0), MailAgent.SEQUENCE);
        Check.due("data(0)", agent.data(0), MailAgent.SEQUENCE);
    }

    /** "has a sender and up to 4 recipients" */
    private static void transactionHasUpToFourRecipients() {
        MailAgent agent = Check.agent();
        agent.from(9);
        for (int address = 20; address < 24; address++) {
            Check.due("to(" + address + ")", agent.to(address), 1);
        }
        Check.due("a fifth", agent.to(24), MailAgent.FULL);
        Check.due("count(6)", agent.count(6), 4);
        Check.due("data(0)", agent.data(0), 1);
        Check.due("sender(1)", agent.sender(1), 9);
        Check.due("count(2)", agent.count(2), 4);
    }
}
