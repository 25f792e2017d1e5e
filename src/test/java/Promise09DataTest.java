/** Promise 9: data. */
public final class Promise09DataTest {
    public static void main(String[] args) {
        acceptsTheTransaction();
        takesStartAndDueFromTheClock();
        closesTheTransaction();
        noneIsOpen();
        openWithoutRecipients();
        sixMessagesFit();
        aSeventhDoesNot();
        aSeventhFitsWhenOneHasLeft();
        aCrashFillsTheQueueAgain();
        costsOfSixtyFit();
        costsOfSixtyOneDoNot();
        deliveredRecipientsCostTheSame();
        aReportCostsTwo();
        sizeIsZeroToForty();
        testsInTheToldOrder();
        answersTheNumber();
        refusedUsesNoNumber();
        makesAllChangesDurable();
        refusedMakesNothingDurable();
        Check.end();
    }

    /** "Accepts the transaction as a message of the size [...]: with its sender and recipients, all waiting" */
    private static void acceptsTheTransaction() {
        MailAgent agent = Check.agent();
        Check.due("data(7)", Check.send(agent, 12, 7, 3, 40), 1);
        Check.due("count(0)", agent.count(0), 1);
        Check.due("count(1)", agent.count(1), 10);
        Check.due("count(2)", agent.count(2), 2);
        Check.due("message(0)", agent.message(0), 1);
        Check.due("sender(1)", agent.sender(1), 12);
        Check.due("status(1, 3)", agent.status(1, 3), Check.WAITING);
        Check.due("status(1, 40)", agent.status(1, 40), Check.WAITING);
        Check.due("nothing is tried yet", agent.received(3, 0), 0);
    }

    /** "start and due the clock, gap minGap" */
    private static void takesStartAndDueFromTheClock() {
        MailAgent agent = Check.busyAgent();
        agent.tick(100);
        Check.send(agent, 5, 0, 8);
        Check.due("due is the clock", agent.due(1), 100);
        agent.tick(100);
        Check.due("the first gap is minGap", agent.due(1), 105);
        agent.tick(159);
        Check.due("it waits before start + giveUp", agent.status(1, 8), Check.WAITING);
        agent.hurry(1);
        agent.tick(160);
        Check.due("it fails at start + giveUp", agent.status(1, 5), Check.WAITING);
    }

    /** "and the transaction is no longer open" */
    private static void closesTheTransaction() {
        MailAgent agent = Check.agent();
        Check.send(agent, 12, 7, 3);
        Check.due("count(6)", agent.count(6), -1);
        Check.due("data once more", agent.data(7), MailAgent.SEQUENCE);
        Check.due("to", agent.to(4), MailAgent.SEQUENCE);
        Check.due("count(0)", agent.count(0), 1);
    }

    /** "No transaction is open [...]: SEQUENCE." */
    private static void noneIsOpen() {
        MailAgent agent = Check.agent();
        Check.due("data(0) at first", agent.data(0), MailAgent.SEQUENCE);
        Check.due("data(40) at first", agent.data(40), MailAgent.SEQUENCE);
        agent.from(1);
        agent.to(1);
        agent.crash();
        Check.due("after a crash", agent.data(0), MailAgent.SEQUENCE);
        Check.due("count(0)", agent.count(0), 0);
        Check.due("count(5)", agent.count(5), 0);
    }

    /** "or it has no recipients: SEQUENCE." */
    private static void openWithoutRecipients() {
        MailAgent agent = Check.agent();
        agent.from(1);
        Check.due("data(0)", agent.data(0), MailAgent.SEQUENCE);
        Check.due("it stays open", agent.count(6), 0);
        agent.alias(3, 3);
        agent.to(3);
        Check.due("to was refused", agent.data(0), MailAgent.SEQUENCE);
        agent.to(1);
        agent.from(2);
        Check.due("from has taken its place", agent.data(0), MailAgent.SEQUENCE);
        agent.to(1);
        Check.due("with one recipient", agent.data(0), 1);
        Check.due("sender(1)", agent.sender(1), 2);
    }

    /** "6 messages are in the queue [...]: FULL.": the sixth is accepted while 5 are. */
    private static void sixMessagesFit() {
        MailAgent agent = Check.agent();
        for (int i = 1; i <= 6; i++) {
            Check.due("message " + i, Check.send(agent, -1, 0, i), i);
            Check.due("count(0)", agent.count(0), i);
        }
    }

    /** "6 messages are in the queue [...]: FULL." */
    private static void aSeventhDoesNot() {
        MailAgent agent = agentWithSixMessages();
        Check.due("a seventh", Check.send(agent, 3, 0, 1), MailAgent.FULL);
        Check.due("the transaction stays open", agent.count(6), 1);
        Check.due("count(0)", agent.count(0), 6);
        Check.due("count(5)", agent.count(5), 6);
        Check.due("once more", agent.data(40), MailAgent.FULL);
        for (int k = 0; k < 6; k++) {
            Check.due("message(" + k + ")", agent.message(k), k + 1);
        }
    }

    private static void aSeventhFitsWhenOneHasLeft() {
        for (int left = 1; left <= 6; left++) {
            MailAgent agent = agentWithSixMessages();
            Check.send(agent, 3, 0, 9);
            agent.drop(left);
            Check.due("now there is room", agent.data(0), 7);
            Check.due("sender(7)", agent.sender(7), 3);
            Check.due("status(7, 9)", agent.status(7, 9), Check.WAITING);
            Check.due("message(5)", agent.message(5), 7);
            Check.due("an eighth", Check.send(agent, 3, 0, 1), MailAgent.FULL);
        }
    }

    private static void aCrashFillsTheQueueAgain() {
        MailAgent agent = agentWithSixMessages();
        agent.drop(4);
        agent.crash();
        Check.due("a seventh", Check.send(agent, 3, 0, 1), MailAgent.FULL);
        agent.drop(4);
        agent.sync();
        agent.crash();
        Check.due("the drop was durable", Check.send(agent, 3, 0, 1), 7);
    }

    /** "or the costs would be above 60: FULL.": 60 are not above 60. */
    private static void costsOfSixtyFit() {
        MailAgent agent = agentWithCosts42();
        Check.due("59 in all", Check.send(agent, -1, 13, 1, 2, 3), 2);
        Check.due("count(1)", agent.count(1), 59);
        agent.drop(2);
        Check.due("60 in all", Check.send(agent, -1, 14, 1, 2, 3), 3);
        Check.due("count(1)", agent.count(1), 60);
    }

    /** "or the costs would be above 60: FULL." */
    private static void costsOfSixtyOneDoNot() {
        MailAgent agent = agentWithCosts42();
        Check.due("61 in all", Check.send(agent, -1, 15, 1, 2, 3), MailAgent.FULL);
        Check.due("the transaction stays open", agent.count(6), 3);
        Check.due("count(1)", agent.count(1), 42);
        Check.due("count(0)", agent.count(0), 1);
        agent.to(4);
        Check.due("61 in all by one recipient more", agent.data(14), MailAgent.FULL);
        Check.due("a smaller one", agent.data(13), 2);
        Check.due("count(1)", agent.count(1), 60);
        Check.due("the least cost", Check.send(agent, -1, 0, 1), MailAgent.FULL);
        agent.drop(1);
        Check.due("there is room again", agent.data(0), 3);
    }

    /** "Its cost is size + recipients + 1", whatever state the recipients have. */
    private static void deliveredRecipientsCostTheSame() {
        MailAgent agent = Check.busyAgent();
        Check.send(agent, -1, 35, 1, 2, 16, 8);
        agent.tick(0);
        Check.due("count(2)", agent.count(2), 1);
        Check.due("count(1)", agent.count(1), 40);
        Check.due("61 in all", Check.send(agent, -1, 19, 1), MailAgent.FULL);
        Check.due("60 in all", agent.data(18), 2);
    }

    /** A report has the size 0 and one recipient. */
    private static void aReportCostsTwo() {
        MailAgent agent = Check.agent();
        Check.send(agent, 3, 40, 8, 9, 10, 11);
        agent.tick(0);
        Check.due("count(1)", agent.count(1), 2);
        Check.send(agent, -1, 40, 1, 2, 3, 4);
        Check.due("count(1)", agent.count(1), 47);
        Check.due("61 in all", Check.send(agent, -1, 12, 1), MailAgent.FULL);
        Check.due("60 in all", agent.data(11), 3);
    }

    /** "the size (0 .. 40)" */
    private static void sizeIsZeroToForty() {
        Check.range("data(n)", 0, 40, 1, size -> {
            MailAgent agent = Check.agent();
            agent.from(-1);
            agent.to(1);
            return agent.data(size);
        });
        MailAgent agent = Check.agent();
        Check.send(agent, -1, 40, 1);
        Check.send(agent, -1, 0, 1);
        Check.due("count(1)", agent.count(1), 44);
    }

    /** "and that is tested before all else"; then as the promise tells it. */
    private static void testsInTheToldOrder() {
        MailAgent agent = Check.agent();
        Check.due("SYNTAX before SEQUENCE", agent.data(41), MailAgent.SYNTAX);
        Check.due("SYNTAX before SEQUENCE", agent.data(-1), MailAgent.SYNTAX);
        MailAgent full = agentWithSixMessages();
        Check.due("SEQUENCE before FULL", full.data(0), MailAgent.SEQUENCE);
        full.from(1);
        Check.due("SEQUENCE before FULL", full.data(0), MailAgent.SEQUENCE);
        full.to(1);
        Check.due("SYNTAX before FULL", full.data(41), MailAgent.SYNTAX);
        Check.due("SYNTAX before FULL", full.data(-1), MailAgent.SYNTAX);
        MailAgent dear = agentWithCosts42();
        Check.due("SEQUENCE before FULL", dear.data(40), MailAgent.SEQUENCE);
    }

    /** "Else answers the message's number" */
    private static void answersTheNumber() {
        MailAgent agent = Check.agent();
        for (int number = 1; number <= 20; number++) {
            Check.due("number", Check.send(agent, -1, 0, 1), number);
            Check.due("count(5)", agent.count(5), number);
            Check.due("drop", agent.drop(number), 1);
        }
    }

    private static void refusedUsesNoNumber() {
        MailAgent agent = agentWithSixMessages();
        agent.data(0);
        agent.from(1);
        agent.data(0);
        agent.to(1);
        agent.data(0);
        agent.data(41);
        Check.due("count(5)", agent.count(5), 6);
        agent.drop(1);
        Check.due("the next number", agent.data(0), 7);
    }

    /** "and all changes, this one too, are durable" */
    private static void makesAllChangesDurable() {
        MailAgent agent = Check.agent();
        Check.send(agent, -1, 0, 1);
        Check.makeChanges(agent, 1, 3);
        agent.drop(1);
        Check.due("count(3)", agent.count(3), 4);
        Check.due("data", Check.send(agent, -1, 0, 2), 2);
        Check.due("count(3)", agent.count(3), 0);
        Check.due("crash()", agent.crash(), 0);
        Check.due("message(0)", agent.message(0), 2);
        Check.due("status(2, 2)", agent.status(2, 2), Check.WAITING);
        Check.due("message(1)", agent.message(1), 0);
    }

    private static void refusedMakesNothingDurable() {
        MailAgent agent = agentWithSixMessages();
        agent.hurry(1);
        Check.send(agent, -1, 0, 2);
        agent.data(41);
        Check.due("count(3)", agent.count(3), 1);
        agent.drop(2);
        agent.from(1);
        Check.due("data(0)", agent.data(0), MailAgent.SEQUENCE);
        Check.due("count(3)", agent.count(3), 2);
        Check.due("crash()", agent.crash(), 2);
        Check.due("message(1)", agent.message(1), 2);
    }

    private static MailAgent agentWithSixMessages() {
        MailAgent agent = Check.agent();
        for (int i = 1; i <= 6; i++) {
            Check.due("message " + i, Check.send(agent, -1, 0, i), i);
        }
        return agent;
    }

    private static MailAgent agentWithCosts42() {
        MailAgent agent = Check.agent();
        Check.due("data(40)", Check.send(agent, -1, 40, 1), 1);
        return agent;
    }
}
