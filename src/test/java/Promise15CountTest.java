/** Promise 15: count. */
public final class Promise15CountTest {
    public static void main(String[] args) {
        messagesInTheQueue();
        costsTogether();
        waitingRecipients();
        changesThatAreNotDurable();
        theClock();
        numberAcceptedLast();
        recipientsOfTheTransaction();
        countsAllSevenInOneRun();
        whatIsZeroToSix();
        Check.end();
    }

    /** "How many messages are in the queue (0)": from the empty to the full one. */
    private static void messagesInTheQueue() {
        MailAgent agent = Check.agent();
        for (int size = 0; size <= 6; size++) {
            Check.due("count(0)", agent.count(0), size);
            Check.send(agent, -1, 0, 1);
        }
        Check.due("a seventh was refused", agent.count(0), 6);
        agent.tick(0);
        Check.due("all have left", agent.count(0), 0);
    }

    /** "their costs together (1)": from none to the most there can be. */
    private static void costsTogether() {
        MailAgent agent = Check.agent();
        Check.due("none", agent.count(1), 0);
        Check.send(agent, -1, 0, 1);
        Check.due("the least cost", agent.count(1), 2);
        Check.send(agent, -1, 40, 1, 2, 3, 4);
        Check.due("the greatest cost", agent.count(1), 47);
        Check.send(agent, -1, 11, 1);
        Check.due("the most there can be", agent.count(1), 60);
        agent.drop(2);
        Check.due("one less", agent.count(1), 15);
    }

    /** "how many recipients of them are waiting (2)": not those of an open transaction, delivered or failed. */
    private static void waitingRecipients() {
        MailAgent agent = Check.busyAgent();
        Check.due("none", agent.count(2), 0);
        Check.send(agent, 3, 0, 1, 8, 16, 9);
        agent.from(5);
        agent.to(6);
        Check.due("all wait", agent.count(2), 4);
        agent.tick(0);
        Check.due("one delivered, one failed", agent.count(2), 2);
        for (int i = 0; i < 5; i++) {
            Check.send(agent, 3, 0, 8, 9, 10, 11);
        }
        Check.due("a full queue", agent.count(2), 22);
        agent.host(1, Check.GONE);
        agent.tick(5);
        Check.due("each has become a report", agent.count(2), 6);
        agent.tick(5);
        Check.due("none", agent.count(2), 0);
    }

    /** "changes that are not durable (3)": from none to the most there can be. */
    private static void changesThatAreNotDurable() {
        MailAgent agent = Check.agent();
        Check.due("none", agent.count(3), 0);
        Check.send(agent, -1, 0, 1);
        Check.due("data is durable", agent.count(3), 0);
        for (int changes = 1; changes < 24; changes++) {
            agent.hurry(1);
            Check.due("count(3)", agent.count(3), changes);
        }
        agent.hurry(1);
        Check.due("the 24th", agent.count(3), 0);
    }

    /** "the clock (4)" */
    private static void theClock() {
        MailAgent agent = Check.agent();
        Check.due("at first", agent.count(4), 0);
        agent.tick(1000000);
        Check.due("at the end", agent.count(4), 1000000);
    }

    /** "the number of the message accepted last, 0 if there was none (5)": whether it is in the queue or not. */
    private static void numberAcceptedLast() {
        MailAgent agent = Check.agent();
        Check.due("none", agent.count(5), 0);
        agent.from(1);
        agent.to(1);
        Check.due("not accepted yet", agent.count(5), 0);
        agent.data(0);
        Check.due("the first", agent.count(5), 1);
        Check.send(agent, -1, 0, 1);
        agent.drop(2);
        Check.due("the last has left", agent.count(5), 2);
        agent.tick(0);
        Check.due("all have left", agent.count(5), 2);
        agent.crash();
        Check.due("after a crash", agent.count(5), 2);
    }

    /** "recipients of the transaction, -1 if none is open (6)": from none to the most there can be. */
    private static void recipientsOfTheTransaction() {
        MailAgent agent = Check.agent();
        Check.due("none is open", agent.count(6), -1);
        agent.from(1);
        for (int recipients = 0; recipients < 4; recipients++) {
            Check.due("count(6)", agent.count(6), recipients);
            agent.to(recipients);
        }
        Check.due("four", agent.count(6), 4);
        agent.to(5);
        Check.due("a fifth was refused", agent.count(6), 4);
        agent.data(0);
        Check.due("data has closed it", agent.count(6), -1);
        agent.from(1);
        agent.crash();
        Check.due("a crash has closed it", agent.count(6), -1);
    }

    private static void countsAllSevenInOneRun() {
        MailAgent agent = Check.routedAgent();
        agent.host(1, Check.BUSY);
        countsAre(agent, 0, 0, 0, 0, 0, 0, -1);
        agent.from(3);
        countsAre(agent, 0, 0, 0, 0, 0, 0, 0);
        agent.to(1);
        agent.to(8);
        countsAre(agent, 0, 0, 0, 0, 0, 0, 2);
        agent.data(20);
        countsAre(agent, 1, 23, 2, 0, 0, 1, -1);
        Check.send(agent, 4, 5, 2);
        countsAre(agent, 2, 30, 3, 0, 0, 2, -1);
        agent.tick(6);
        countsAre(agent, 1, 23, 1, 4, 6, 2, -1);
        agent.drop(1);
        countsAre(agent, 0, 0, 0, 5, 6, 2, -1);
        agent.crash();
        countsAre(agent, 2, 30, 3, 0, 6, 2, -1);
        agent.drop(2);
        agent.sync();
        countsAre(agent, 1, 23, 2, 0, 6, 2, -1);
    }

    /** "else SYNTAX" */
    private static void whatIsZeroToSix() {
        MailAgent agent = Check.agent();
        for (int what = 0; what <= 6; what++) {
            Check.due("count(" + what + ")", agent.count(what), what == 6 ? -1 : 0);
        }
        for (int what : Check.outside(0, 6)) {
            Check.due("count(" + what + ")", agent.count(what), MailAgent.SYNTAX);
        }
    }

    private static void countsAre(MailAgent agent, int... counts) {
        for (int what = 0; what < counts.length; what++) {
            Check.due("count(" + what + ")", agent.count(what), counts[what]);
        }
    }
}
