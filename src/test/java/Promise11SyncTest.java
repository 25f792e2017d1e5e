/** Promise 11: sync. */
public final class Promise11SyncTest {
    public static void main(String[] args) {
        answersHowManyWereNotDurable();
        noneAtFirst();
        noneAfterAMessageIsAccepted();
        noneAfterACrash();
        noneAfterTheTwentyFourth();
        makesAllChangesDurable();
        leavesTheTransactionOpen();
        Check.end();
    }

    /** "answers how many were not": from none to the most there can be. */
    private static void answersHowManyWereNotDurable() {
        MailAgent agent = Check.agent();
        Check.send(agent, -1, 0, 1);
        for (int changes = 0; changes < 24; changes++) {
            Check.makeChanges(agent, 1, changes);
            Check.due("sync() of " + changes, agent.sync(), changes);
            Check.due("count(3)", agent.count(3), 0);
            Check.due("sync() again", agent.sync(), 0);
        }
    }

    private static void noneAtFirst() {
        MailAgent agent = Check.agent();
        Check.due("sync()", agent.sync(), 0);
        Check.due("sync() again", agent.sync(), 0);
        agent.tick(5);
        Check.due("an empty queue has no changes", agent.sync(), 0);
    }

    private static void noneAfterAMessageIsAccepted() {
        MailAgent agent = Check.agent();
        Check.send(agent, -1, 0, 1);
        Check.due("sync()", agent.sync(), 0);
        agent.hurry(1);
        Check.send(agent, -1, 0, 1);
        Check.due("sync()", agent.sync(), 0);
    }

    private static void noneAfterACrash() {
        MailAgent agent = Check.agent();
        Check.send(agent, -1, 0, 1);
        agent.hurry(1);
        agent.crash();
        Check.due("sync()", agent.sync(), 0);
    }

    private static void noneAfterTheTwentyFourth() {
        MailAgent agent = Check.agent();
        Check.send(agent, -1, 0, 1);
        Check.makeChanges(agent, 1, 23);
        agent.hurry(1);
        Check.due("sync()", agent.sync(), 0);
        agent.hurry(1);
        Check.due("sync()", agent.sync(), 1);
    }

    /** "Makes all changes durable" */
    private static void makesAllChangesDurable() {
        MailAgent agent = Check.busyAgent();
        Check.send(agent, 5, 9, 2, 8);
        Check.send(agent, 6, 0, 3);
        agent.tick(10);
        Check.due("two delivered, one put off, one left", agent.sync(), 4);
        agent.drop(1);
        Check.due("crash()", agent.crash(), 1);
        Check.due("count(0)", agent.count(0), 1);
        Check.due("status(1, 2)", agent.status(1, 2), Check.DELIVERED);
        Check.due("status(1, 8)", agent.status(1, 8), Check.WAITING);
        Check.due("due(1)", agent.due(1), 15);
        agent.tick(15);
        Check.due("the gap was kept too", agent.due(1), 25);
    }

    private static void leavesTheTransactionOpen() {
        MailAgent agent = Check.agent();
        agent.from(1);
        agent.to(2);
        agent.sync();
        Check.due("count(6)", agent.count(6), 1);
        Check.due("data(0)", agent.data(0), 1);
        Check.due("sender(1)", agent.sender(1), 1);
    }
}
