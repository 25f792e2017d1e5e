/** Terms: changes of the queue, and when they are durable. */
public final class TermsChangesTest {
    public static void main(String[] args) {
        deliveredAndLeft();
        failedAndLeft();
        failedAndReport();
        putOff();
        givenUp();
        allKindsInOneAttempt();
        otherCallsAreNoChanges();
        notDurableAtFirst();
        twentyThreeAreNotDurable();
        twentyFourAreDurable();
        moreThanTwentyFourAreDurable();
        atTheEndOfTheCallAlone();
        refusedCallAtTwentyThree();
        countsAnewAfterwards();
        Check.end();
    }

    /** "a recipient delivered; [...] one that leaves" */
    private static void deliveredAndLeft() {
        int[][] recipients = {{1}, {1, 2}, {1, 2, 3}, {1, 2, 3, 4}};
        for (int[] addresses : recipients) {
            MailAgent agent = Check.agent();
            Check.send(agent, 5, 0, addresses);
            agent.tick(0);
            Check.due("count(3)", agent.count(3), addresses.length + 1);
            Check.due("count(0)", agent.count(0), 0);
        }
    }

    /** "a recipient failed; [...] one that leaves" */
    private static void failedAndLeft() {
        MailAgent agent = Check.agent();
        Check.send(agent, -1, 0, 8, 9, 10, 11);
        agent.tick(0);
        Check.due("count(3)", agent.count(3), 5);
        Check.due("count(0)", agent.count(0), 0);
    }

    /** "a recipient failed; [...] one that becomes a report" */
    private static void failedAndReport() {
        MailAgent agent = Check.agent();
        Check.send(agent, 5, 0, 8, 9, 10, 11);
        agent.tick(0);
        Check.due("count(3)", agent.count(3), 5);
        Check.due("count(0)", agent.count(0), 1);
    }

    /** "a message put off": one change, however many recipients wait, by an attempt or by hurry. */
    private static void putOff() {
        MailAgent agent = Check.busyAgent();
        Check.send(agent, 5, 0, 8, 9, 10, 11);
        agent.tick(0);
        Check.due("put off", agent.count(3), 1);
        agent.hurry(1);
        Check.due("hurried", agent.count(3), 2);
        agent.tick(0);
        Check.due("put off again", agent.count(3), 3);
    }

    /** "a recipient failed": also those that are given up. */
    private static void givenUp() {
        MailAgent agent = Check.busyAgent();
        Check.send(agent, 5, 0, 8, 9, 10);
        agent.tick(60);
        Check.due("three failed, one report", agent.count(3), 4);
    }

    private static void allKindsInOneAttempt() {
        MailAgent agent = Check.busyAgent();
        Check.send(agent, 5, 0, 1, 16, 8);
        Check.send(agent, 5, 0, 17);
        Check.send(agent, -1, 0, 17);
        agent.tick(0);
        Check.due("delivered, failed, put off; failed, report; failed, left", agent.count(3), 7);
    }

    private static void otherCallsAreNoChanges() {
        MailAgent agent = Check.busyAgent();
        Check.send(agent, 5, 0, 8);
        agent.tick(0);
        agent.tick(4);
        agent.alias(1, 9);
        agent.unalias(1);
        agent.route(2, 2, 2);
        agent.unroute(2);
        agent.host(2, Check.GONE);
        agent.from(5);
        agent.to(6);
        agent.message(0);
        agent.status(1, 8);
        agent.sender(1);
        agent.due(1);
        agent.received(8, 0);
        Check.due("put off once", agent.count(3), 1);
    }

    /** "A change is not durable at first.": a crash takes back each kind of it. */
    private static void notDurableAtFirst() {
        MailAgent agent = Check.busyAgent();
        Check.send(agent, 5, 3, 1, 16, 8);
        Check.send(agent, 6, 3, 17);
        Check.send(agent, -1, 3, 17);
        agent.tick(2);
        agent.hurry(1);
        agent.drop(2);
        Check.due("count(3)", agent.count(3), 9);
        Check.due("crash()", agent.crash(), 9);
        Check.due("count(0)", agent.count(0), 3);
        Check.due("count(1)", agent.count(1), 17);
        Check.due("count(2)", agent.count(2), 5);
        Check.due("due(1)", agent.due(1), 0);
        Check.due("sender(2)", agent.sender(2), 6);
    }

    /** "When at the end of a call 24 or more changes are not durable": 23 are not enough. */
    private static void twentyThreeAreNotDurable() {
        MailAgent agent = agentWithChanges(21);
        Check.due("delivered, left", agent.tick(0), 1);
        Check.due("count(3)", agent.count(3), 23);
        Check.due("crash()", agent.crash(), 23);
        Check.due("count(0)", agent.count(0), 2);
        Check.due("status(1, 8)", agent.status(1, 8), Check.WAITING);
    }

    /** "24 or more [...], all become durable": by each call that makes changes. */
    private static void twentyFourAreDurable() {
        MailAgent ticked = agentWithChanges(22);
        Check.due("delivered, left", ticked.tick(0), 1);
        Check.due("count(3) after tick", ticked.count(3), 0);
        Check.due("crash()", ticked.crash(), 0);
        Check.due("message(0)", ticked.message(0), 2);
        Check.due("message(1)", ticked.message(1), 0);
        MailAgent dropped = agentWithChanges(23);
        dropped.drop(1);
        Check.due("count(3) after drop", dropped.count(3), 0);
        Check.due("crash()", dropped.crash(), 0);
        Check.due("message(0)", dropped.message(0), 2);
        MailAgent hurried = agentWithChanges(23);
        hurried.hurry(2);
        Check.due("count(3) after hurry", hurried.count(3), 0);
        Check.due("crash()", hurried.crash(), 0);
        Check.due("due(2)", hurried.due(2), 0);
    }

    /** "24 or more" */
    private static void moreThanTwentyFourAreDurable() {
        MailAgent agent = agentWithChanges(23);
        Check.due("delivered, left", agent.tick(0), 1);
        Check.due("count(3)", agent.count(3), 0);
        Check.due("crash()", agent.crash(), 0);
        Check.due("count(0)", agent.count(0), 1);
    }

    /** "at the end of a call": what comes after the 24th in the same call is durable with it. */
    private static void atTheEndOfTheCallAlone() {
        MailAgent agent = Check.agent();
        for (int i = 0; i < 6; i++) {
            Check.send(agent, 7, 0, 8, 9, 1, 2);
        }
        Check.due("tick(0)", agent.tick(0), 12);
        Check.due("30 changes at the end of the call", agent.count(3), 0);
        Check.due("crash()", agent.crash(), 0);
        Check.due("six reports", agent.count(1), 12);
        for (int number = 1; number <= 6; number++) {
            Check.due("status(" + number + ", 7)", agent.status(number, 7), Check.WAITING);
        }
    }

    private static void refusedCallAtTwentyThree() {
        MailAgent agent = agentWithChanges(23);
        agent.drop(3);
        agent.hurry(3);
        agent.tick(-1);
        agent.data(41);
        agent.data(0);
        agent.to(1);
        agent.received(0, 4);
        Check.due("count(3)", agent.count(3), 23);
        Check.due("crash()", agent.crash(), 23);
    }

    private static void countsAnewAfterwards() {
        MailAgent agent = agentWithChanges(23);
        agent.hurry(1);
        Check.due("the 24th", agent.count(3), 0);
        for (int changes = 1; changes < 24; changes++) {
            agent.hurry(1);
            Check.due("count(3)", agent.count(3), changes);
        }
        agent.hurry(1);
        Check.due("the 48th", agent.count(3), 0);
        agent.drop(1);
        Check.due("crash()", agent.crash(), 1);
        Check.due("count(0)", agent.count(0), 2);
    }

    /** Message 1 can be delivered and is due, message 2 is put off to 5; so many changes, all of message 1. */
    private static MailAgent agentWithChanges(int changes) {
        MailAgent agent = Check.busyAgent();
        agent.route(2, 2, 1);
        agent.host(2, Check.BUSY);
        Check.send(agent, -1, 0, 8);
        Check.send(agent, -1, 0, 16);
        agent.tick(0);
        agent.host(1, Check.UP);
        agent.hurry(1);
        Check.due("due(2)", agent.due(2), 5);
        Check.makeChanges(agent, 1, changes);
        return agent;
    }
}
