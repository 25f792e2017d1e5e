/** Promise 9: data. */
public final class Promise09DataTest {
    public static void main(String[] args) {
        acceptsTheTransaction();
        numbersRiseWithoutGaps();
        needsAnOpenTransactionWithRecipients();
        refusesASeventhMessage();
        refusesCostsAboveSixty();
        refusesWhatIsOutOfRange();
        makesAllChangesDurable();
        startsAtTheClock();
        Check.end();
    }

    private static void acceptsTheTransaction() {
        MailAgent agent = Check.agent();
        agent.tick(9);
        Check.due("data(7)", Check.send(agent, 12, 7, 3, 40), 1);
        Check.due("count(6)", agent.count(6), -1);
        Check.due("count(0)", agent.count(0), 1);
        Check.due("count(1)", agent.count(1), 10);
        Check.due("count(2)", agent.count(2), 2);
        Check.due("sender(1)", agent.sender(1), 12);
        Check.due("due(1)", agent.due(1), 9);
        Check.due("status(1, 3)", agent.status(1, 3), Check.WAITING);
        Check.due("status(1, 40)", agent.status(1, 40), Check.WAITING);
        Check.due("data once more", agent.data(7), MailAgent.SEQUENCE);
    }

    private static void numbersRiseWithoutGaps() {
        MailAgent agent = Check.agent();
        for (int number = 1; number <= 20; number++) {
            Check.due("number", Check.send(agent, -1, 0, 1), number);
            Check.due("refused", agent.data(0), MailAgent.SEQUENCE);
            Check.due("drop", agent.drop(number), 1);
            agent.sync();
        }
    }

    private static void needsAnOpenTransactionWithRecipients() {
        MailAgent agent = Check.agent();
        Check.due("none open", agent.data(0), MailAgent.SEQUENCE);
        agent.from(1);
        Check.due("no recipients", agent.data(0), MailAgent.SEQUENCE);
        Check.due("it stays open", agent.count(6), 0);
        agent.to(1);
        agent.crash();
        Check.due("after a crash", agent.data(0), MailAgent.SEQUENCE);
    }

    private static void refusesASeventhMessage() {
        MailAgent agent = Check.agent();
        for (int i = 1; i <= 6; i++) {
            Check.due("message", Check.send(agent, -1, 0, i), i);
        }
        Check.due("a seventh", Check.send(agent, 3, 0, 1), MailAgent.FULL);
        Check.due("the transaction stays open", agent.count(6), 1);
        Check.due("count(5)", agent.count(5), 6);
        agent.drop(2);
        Check.due("now there is room", agent.data(0), 7);
        Check.due("sender(7)", agent.sender(7), 3);
        Check.due("message(5)", agent.message(5), 7);
        Check.due("SEQUENCE before FULL", agent.data(0), MailAgent.SEQUENCE);
    }

    private static void refusesCostsAboveSixty() {
        MailAgent agent = Check.agent();
        Check.due("cost 42", Check.send(agent, -1, 40, 1), 1);
        Check.due("cost 19", Check.send(agent, -1, 15, 1, 2, 3), MailAgent.FULL);
        Check.due("cost 18", agent.data(14), 2);
        Check.due("count(1)", agent.count(1), 60);
        Check.due("cost 2 more", Check.send(agent, -1, 0, 1), MailAgent.FULL);
        Check.due("count(1)", agent.count(1), 60);
    }

    private static void refusesWhatIsOutOfRange() {
        MailAgent agent = Check.agent();
        Check.due("SYNTAX before SEQUENCE", agent.data(41), MailAgent.SYNTAX);
        agent.from(1);
        agent.to(1);
        for (int size : new int[] {-1, 41, Integer.MIN_VALUE, Integer.MAX_VALUE}) {
            Check.due("data(" + size + ")", agent.data(size), MailAgent.SYNTAX);
        }
        Check.due("count(6)", agent.count(6), 1);
        Check.due("count(0)", agent.count(0), 0);
        Check.due("data(40)", agent.data(40), 1);
    }

    private static void makesAllChangesDurable() {
        MailAgent agent = Check.agent();
        Check.send(agent, -1, 0, 1);
        Check.makeChanges(agent, 1, 3);
        agent.drop(1);
        Check.due("a refused one", agent.data(0), MailAgent.SEQUENCE);
        Check.due("count(3)", agent.count(3), 4);
        Check.due("data", Check.send(agent, -1, 0, 2), 2);
        Check.due("count(3)", agent.count(3), 0);
        Check.due("crash()", agent.crash(), 0);
        Check.due("message(0)", agent.message(0), 2);
        Check.due("status(2, 2)", agent.status(2, 2), Check.WAITING);
        Check.due("message(1)", agent.message(1), 0);
    }

    private static void startsAtTheClock() {
        MailAgent agent = Check.busyAgent();
        agent.tick(100);
        Check.send(agent, 5, 0, 8);
        agent.tick(100);
        Check.due("the first gap is minGap", agent.due(1), 105);
        agent.tick(159);
        Check.due("it waits before start + giveUp", agent.status(1, 8), Check.WAITING);
        agent.hurry(1);
        agent.tick(160);
        Check.due("it fails at start + giveUp", agent.status(1, 5), Check.WAITING);
    }
}
