/** Promise 12: crash. */
public final class Promise12CrashTest {
    public static void main(String[] args) {
        answersHowManyWereUndone();
        nothingToUndo();
        nothingToUndoAfterTheTwentyFourth();
        bringsBackWhatLeft();
        bringsBackAnEmptyQueueToAFullOne();
        bringsBackStatesDueGapAndStart();
        bringsBackWhatBecameAReport();
        bringsBackTheStartFromAReport();
        bringsBackAReportAsAReport();
        closesTheTransaction();
        closesAFullTransaction();
        noneWasOpen();
        keepsDeliveriesAndClock();
        keepsAliasesRoutesAndHosts();
        undoesOnlyWhatIsNotDurable();
        undoesAgainAndAgain();
        numbersGoOn();
        numbersGoOnWhenTheLastHasLeft();
        Check.end();
    }

    /** "Answers how many were undone.": from none to the most there can be. */
    private static void answersHowManyWereUndone() {
        MailAgent agent = Check.agent();
        Check.send(agent, -1, 0, 1);
        for (int changes = 0; changes < 24; changes++) {
            Check.makeChanges(agent, 1, changes);
            Check.due("crash() of " + changes, agent.crash(), changes);
            Check.due("count(3)", agent.count(3), 0);
            Check.due("crash() again", agent.crash(), 0);
        }
    }

    private static void nothingToUndo() {
        MailAgent agent = Check.agent();
        Check.due("at first", agent.crash(), 0);
        Check.due("count(0)", agent.count(0), 0);
        Check.send(agent, 5, 7, 1);
        Check.due("after data", agent.crash(), 0);
        Check.due("count(0)", agent.count(0), 1);
        Check.due("count(1)", agent.count(1), 9);
        agent.hurry(1);
        agent.sync();
        Check.due("after sync", agent.crash(), 0);
        agent.hurry(1);
        agent.crash();
        Check.due("after a crash", agent.crash(), 0);
    }

    /** "all become durable": the 24th change takes the other 23 with it. */
    private static void nothingToUndoAfterTheTwentyFourth() {
        MailAgent agent = Check.busyAgent();
        Check.send(agent, -1, 0, 8);
        agent.tick(0);
        Check.makeChanges(agent, 1, 22);
        agent.tick(1);
        Check.due("the 23rd", agent.count(3), 23);
        Check.due("due(1)", agent.due(1), 11);
        agent.hurry(1);
        Check.due("crash()", agent.crash(), 0);
        Check.due("due(1)", agent.due(1), 1);
        agent.tick(1);
        Check.due("the gap was doubled twice", agent.due(1), 21);
        Check.due("crash()", agent.crash(), 1);
        Check.due("due(1)", agent.due(1), 1);
    }

    /** "the queue [...] is what it was before the first of them" */
    private static void bringsBackWhatLeft() {
        MailAgent agent = Check.agent();
        for (int i = 1; i <= 6; i++) {
            Check.send(agent, i, i, i);
        }
        agent.drop(4);
        agent.drop(1);
        agent.drop(6);
        Check.due("crash()", agent.crash(), 3);
        Check.due("count(0)", agent.count(0), 6);
        Check.due("count(1)", agent.count(1), 33);
        Check.due("count(3)", agent.count(3), 0);
        for (int i = 1; i <= 6; i++) {
            Check.due("message(" + (i - 1) + ")", agent.message(i - 1), i);
            Check.due("sender(" + i + ")", agent.sender(i), i);
            Check.due("status(" + i + ")", agent.status(i, i), Check.WAITING);
        }
    }

    private static void bringsBackAnEmptyQueueToAFullOne() {
        MailAgent agent = Check.agent();
        for (int i = 1; i <= 6; i++) {
            Check.send(agent, i, 5, i, 7, 0, i + 8);
        }
        agent.sync();
        for (int i = 1; i <= 6; i++) {
            agent.drop(i);
        }
        Check.due("count(0)", agent.count(0), 0);
        Check.due("count(1)", agent.count(1), 0);
        Check.due("crash()", agent.crash(), 6);
        Check.due("count(0)", agent.count(0), 6);
        Check.due("count(1)", agent.count(1), 60);
        Check.due("count(2)", agent.count(2), 24);
        for (int i = 1; i <= 6; i++) {
            Check.due("sender(" + i + ")", agent.sender(i), i);
            Check.due("status(" + i + ", " + (i + 8) + ")", agent.status(i, i + 8), Check.WAITING);
        }
    }

    /** "with all that its messages have" */
    private static void bringsBackStatesDueGapAndStart() {
        MailAgent agent = Check.busyAgent();
        agent.tick(10);
        Check.send(agent, 5, 0, 2, 8, 16);
        agent.tick(20);
        agent.tick(25);
        Check.due("delivered, failed, put off twice", agent.crash(), 4);
        Check.due("status(1, 2)", agent.status(1, 2), Check.WAITING);
        Check.due("status(1, 8)", agent.status(1, 8), Check.WAITING);
        Check.due("status(1, 16)", agent.status(1, 16), Check.WAITING);
        Check.due("due(1)", agent.due(1), 10);
        agent.tick(30);
        Check.due("the gap is minGap again", agent.due(1), 35);
        agent.hurry(1);
        agent.tick(70);
        Check.due("start + giveUp has come", agent.status(1, 5), Check.WAITING);
        agent.crash();
        Check.due("sender(1)", agent.sender(1), 5);
    }

    private static void bringsBackWhatBecameAReport() {
        MailAgent agent = Check.agent();
        Check.send(agent, 3, 7, 8, 9);
        agent.tick(12);
        Check.due("count(1) of the report", agent.count(1), 2);
        Check.due("two failed, one report", agent.crash(), 3);
        Check.due("sender(1)", agent.sender(1), 3);
        Check.due("count(1)", agent.count(1), 10);
        Check.due("due(1)", agent.due(1), 0);
        Check.due("status(1, 8)", agent.status(1, 8), Check.WAITING);
        Check.due("status(1, 9)", agent.status(1, 9), Check.WAITING);
        Check.due("status(1, 3)", agent.status(1, 3), 0);
        agent.route(1, 1, 1);
        Check.due("tick(12)", agent.tick(12), 2);
        Check.due("it is no report", agent.received(8, 0), 1);
        Check.due("it is no report", agent.received(8, 1), 0);
    }

    private static void bringsBackTheStartFromAReport() {
        MailAgent agent = Check.busyAgent();
        Check.send(agent, 5, 0, 8);
        agent.host(1, Check.GONE);
        agent.tick(50);
        Check.due("a report that starts at 50", agent.status(1, 5), Check.WAITING);
        agent.crash();
        agent.host(1, Check.BUSY);
        agent.tick(60);
        Check.due("given up 60 after the first start", agent.status(1, 5), Check.WAITING);
    }

    private static void bringsBackAReportAsAReport() {
        MailAgent agent = Check.agent();
        Check.send(agent, 3, 7, 8);
        agent.tick(12);
        agent.sync();
        agent.tick(13);
        Check.due("crash()", agent.crash(), 2);
        Check.due("status(1, 3)", agent.status(1, 3), Check.WAITING);
        Check.due("sender(1)", agent.sender(1), -1);
        Check.due("due(1)", agent.due(1), 12);
        Check.due("tick(14)", agent.tick(14), 1);
        Check.due("received(3, 1)", agent.received(3, 1), 2);
        Check.due("received(3, 0)", agent.received(3, 0), 0);
    }

    /** "The transaction is no longer open." */
    private static void closesTheTransaction() {
        MailAgent agent = Check.agent();
        agent.from(1);
        agent.to(2);
        Check.due("crash()", agent.crash(), 0);
        Check.due("count(6)", agent.count(6), -1);
        Check.due("to(2)", agent.to(2), MailAgent.SEQUENCE);
        Check.due("data(0)", agent.data(0), MailAgent.SEQUENCE);
    }

    /** "The transaction is no longer open.": nothing of it comes into the next one. */
    private static void closesAFullTransaction() {
        MailAgent agent = Check.agent();
        agent.from(1);
        for (int address = 0; address < 4; address++) {
            agent.to(address);
        }
        agent.crash();
        Check.due("count(6)", agent.count(6), -1);
        agent.from(2);
        Check.due("count(6)", agent.count(6), 0);
        Check.due("to(3)", agent.to(3), 1);
        Check.due("data(0)", agent.data(0), 1);
        Check.due("sender(1)", agent.sender(1), 2);
        Check.due("status(1, 0)", agent.status(1, 0), 0);
    }

    private static void noneWasOpen() {
        MailAgent agent = Check.agent();
        Check.due("crash()", agent.crash(), 0);
        Check.due("count(6)", agent.count(6), -1);
        agent.from(2);
        Check.due("count(6)", agent.count(6), 0);
    }

    /** "aliases, routes, hosts and the clock are never lost": of every address, domain and host. */
    private static void keepsAliasesRoutesAndHosts() {
        MailAgent agent = Check.agent();
        Check.send(agent, 1, 0, 2);
        agent.hurry(1);
        for (int i = 0; i < 8; i++) {
            agent.alias(i, 56 + i);
            agent.alias(i, 8 + i);
            agent.route(i, 7 - i, i);
            agent.host(i, i % 2 == 0 ? Check.GONE : Check.BUSY);
        }
        agent.tick(1000000);
        Check.due("crash()", agent.crash(), 3);
        Check.due("count(4)", agent.count(4), 1000000);
        agent.drop(1);
        for (int i = 0; i < 8; i++) {
            Check.finalsAre(agent, i, 56 + i, 8 + i);
            Check.due("unalias(" + i + ")", agent.unalias(i), 2);
            Check.due("host(" + i + ", 0)", agent.host(i, 0), i % 2 == 0 ? Check.GONE : Check.BUSY);
        }
        for (int domain = 1; domain < 8; domain++) {
            Check.carriersAre(agent, domain, 7 - domain);
            Check.due("host, once more UP", agent.host(7 - domain, 0), Check.BUSY);
            Check.due("unroute(" + domain + ")", agent.unroute(domain), 1);
        }
    }

    /** "What is delivered (received, carried) stays so whatever happens" */
    private static void keepsDeliveriesAndClock() {
        MailAgent agent = Check.routedAgent();
        Check.send(agent, 1, 0, 2, 8);
        agent.tick(30);
        Check.due("crash()", agent.crash(), 3);
        Check.due("count(4)", agent.count(4), 30);
        Check.due("received(2, 0)", agent.received(2, 0), 1);
        Check.due("received(2, 2)", agent.received(2, 2), 1);
        Check.due("received(1, 3)", agent.received(1, 3), 1);
        Check.due("they come a second time", agent.tick(30), 2);
        Check.due("received(2, 0)", agent.received(2, 0), 2);
        Check.due("received(1, 3)", agent.received(1, 3), 2);
    }

    private static void undoesOnlyWhatIsNotDurable() {
        MailAgent agent = Check.agent();
        Check.send(agent, 1, 0, 2);
        Check.send(agent, 1, 0, 3);
        Check.send(agent, 1, 0, 4);
        agent.drop(1);
        agent.sync();
        agent.drop(3);
        Check.due("crash()", agent.crash(), 1);
        Check.due("message(0)", agent.message(0), 2);
        Check.due("message(1)", agent.message(1), 3);
        Check.due("message(2)", agent.message(2), 0);
    }

    private static void undoesAgainAndAgain() {
        MailAgent agent = Check.agent();
        Check.send(agent, 3, 1, 8);
        for (int i = 0; i < 5; i++) {
            agent.tick(i);
            agent.tick(i);
            Check.due("the report is gone", agent.count(0), 0);
            Check.due("crash()", agent.crash(), 4);
            Check.due("crash() again", agent.crash(), 0);
            Check.due("sender(1)", agent.sender(1), 3);
            Check.due("status(1, 8)", agent.status(1, 8), Check.WAITING);
        }
        Check.due("received(3, 1)", agent.received(3, 1), 5);
    }

    private static void numbersGoOn() {
        MailAgent agent = Check.agent();
        Check.send(agent, 3, 1, 1);
        agent.drop(1);
        agent.crash();
        Check.due("count(5)", agent.count(5), 1);
        Check.due("the next number", Check.send(agent, 3, 1, 1), 2);
    }

    /** A crash brings back no number of a message that has left for good, even if the queue is empty then. */
    private static void numbersGoOnWhenTheLastHasLeft() {
        MailAgent agent = Check.agent();
        Check.send(agent, 3, 1, 1);
        Check.send(agent, 3, 1, 2);
        agent.drop(2);
        agent.sync();
        agent.crash();
        Check.due("count(5)", agent.count(5), 2);
        agent.drop(1);
        agent.sync();
        agent.crash();
        Check.due("count(5)", agent.count(5), 2);
        Check.due("the next number", Check.send(agent, 3, 1, 1), 3);
    }
}
