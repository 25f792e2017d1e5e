/** Terms: an attempt on a message. */
public final class TermsAttemptTest {
    public static void main(String[] args) {
        triesOnlyTheWaiting();
        localIsDelivered();
        localWithGoalsIsDelivered();
        failsWithoutRoutes();
        goesThroughTheHosts();
        looksAtTheHostsAtTheAttempt();
        beforeStartAndGiveUp();
        atStartAndGiveUp();
        pastStartAndGiveUp();
        notDueIsNotGivenUp();
        deliversBeforeItGivesUp();
        dueIsClockAndGap();
        gapIsDoubledToMaxGapAtMost();
        gapMeetsMaxGap();
        gapThatIsMaxGapStays();
        someAreStillWaiting();
        becomesAReport();
        oneFailureIsEnough();
        earlierFailureIsEnough();
        noFailureNoReport();
        nobodyGetsNoReport();
        reportFollowsNoAlias();
        reportGoesToARecipientToo();
        reportWaitsFromItsOwnStart();
        reportIsPutOffFromMinGap();
        reportThatFailsLeaves();
        Check.end();
    }

    /** "Its waiting recipients are tried" */
    private static void triesOnlyTheWaiting() {
        MailAgent agent = Check.busyAgent();
        Check.send(agent, -1, 0, 4, 8, 16);
        agent.tick(0);
        agent.route(2, 2, 0);
        agent.sync();
        Check.due("tick(5)", agent.tick(5), 0);
        Check.due("put off alone", agent.count(3), 1);
        Check.due("what was delivered is not again", agent.received(4, 0), 1);
        Check.due("what failed is not tried again", agent.status(1, 16), Check.FAILED);
        Check.due("received(16, 0)", agent.received(16, 0), 0);
    }

    /** "a local one is delivered": whatever the hosts are. */
    private static void localIsDelivered() {
        for (int state = 0; state < 3; state++) {
            MailAgent agent = Check.routedAgent();
            for (int host = 0; host < 8; host++) {
                agent.host(host, state);
            }
            Check.send(agent, -1, 0, 0, 7);
            Check.due("tick(0)", agent.tick(0), 2);
            Check.due("no host has carried them", agent.received(0, 3) + agent.received(7, 3), 0);
        }
    }

    /** A recipient was final when it was added; goals that it gets later are not followed. */
    private static void localWithGoalsIsDelivered() {
        MailAgent agent = Check.agent();
        Check.send(agent, -1, 0, 1);
        agent.alias(1, 2);
        Check.due("tick(0)", agent.tick(0), 1);
        Check.due("received(1, 0)", agent.received(1, 0), 1);
        Check.due("received(2, 0)", agent.received(2, 0), 0);
    }

    /** "one whose domain has no routes fails" */
    private static void failsWithoutRoutes() {
        MailAgent agent = Check.busyAgent();
        Check.send(agent, 3, 0, 8, 16, 4);
        Check.due("tick(0)", agent.tick(0), 1);
        Check.due("busy", agent.status(1, 8), Check.WAITING);
        Check.due("no routes", agent.status(1, 16), Check.FAILED);
        Check.due("local", agent.status(1, 4), Check.DELIVERED);
        agent.unroute(1);
        agent.tick(5);
        Check.due("its routes were taken", agent.status(1, 3), Check.WAITING);
    }

    /** "until one is UP [...] or GONE (it fails); if all are BUSY it stays waiting": one to three hosts, all states. */
    private static void goesThroughTheHosts() {
        for (int routes = 1; routes <= 3; routes++) {
            for (int states = 0; states < 27; states++) {
                goesThrough(routes, states % 3, states / 3 % 3, states / 9);
            }
        }
    }

    private static void goesThrough(int routes, int... states) {
        MailAgent agent = Check.agent();
        int want = Check.WAITING;
        int carrier = -1;
        for (int host = 0; host < routes; host++) {
            agent.route(1, host, host);
            if (want == Check.WAITING && states[host] != Check.BUSY) {
                want = states[host] == Check.UP ? Check.DELIVERED : Check.FAILED;
                carrier = states[host] == Check.UP ? host : -1;
            }
        }
        for (int host = 0; host < 3; host++) {
            agent.host(host, states[host]);
        }
        // The second recipient keeps the message in the queue, so that the first one's state can be seen.
        agent.route(2, 7, 0);
        agent.host(7, Check.BUSY);
        Check.send(agent, 5, 0, 8, 16);
        String told = routes + " of the hosts " + states[0] + " " + states[1] + " " + states[2] + ": ";
        Check.due(told + "tick(0)", agent.tick(0), want == Check.DELIVERED ? 1 : 0);
        Check.due(told + "status", agent.status(1, 8), want);
        for (int host = 0; host < 3; host++) {
            Check.due(told + "carried by " + host, agent.received(host, 3), host == carrier ? 1 : 0);
        }
        Check.due(told + "changes", agent.count(3), want == Check.WAITING ? 1 : 2);
    }

    private static void looksAtTheHostsAtTheAttempt() {
        MailAgent agent = Check.busyAgent();
        Check.send(agent, -1, 0, 8);
        agent.tick(0);
        agent.route(1, 2, 0);
        Check.due("a new route", agent.tick(5), 1);
        Check.due("received(2, 3)", agent.received(2, 3), 1);
    }

    /** "if the clock is at least start + giveUp, those still waiting fail": not a moment before. */
    private static void beforeStartAndGiveUp() {
        for (int start : new int[] {0, 1, 500, 999940}) {
            MailAgent agent = agentWithTwoWaitingFrom(start);
            agent.tick(start + 59);
            Check.due("both wait", agent.count(2), 2);
            Check.due("status(1, 8)", agent.status(1, 8), Check.WAITING);
            Check.due("sender(1)", agent.sender(1), 3);
            Check.due("put off alone", agent.count(3), 1);
        }
    }

    /** "if the clock is at least start + giveUp, those still waiting fail": at that very time. */
    private static void atStartAndGiveUp() {
        for (int start : new int[] {0, 1, 500, 999940}) {
            MailAgent agent = agentWithTwoWaitingFrom(start);
            Check.due("tick", agent.tick(start + 60), 0);
            Check.due("two failed, one report", agent.count(3), 3);
            Check.due("status(1, 3)", agent.status(1, 3), Check.WAITING);
            Check.due("status(1, 8)", agent.status(1, 8), 0);
        }
    }

    /** "if the clock is at least start + giveUp, those still waiting fail": and later. */
    private static void pastStartAndGiveUp() {
        for (int late : new int[] {61, 1000, 1000000}) {
            MailAgent agent = agentWithTwoWaitingFrom(0);
            agent.tick(late);
            Check.due("two failed, one report", agent.count(3), 3);
            Check.due("due(1)", agent.due(1), late);
        }
    }

    /** Giving up is a part of an attempt: what is not due yet waits on. */
    private static void notDueIsNotGivenUp() {
        MailAgent agent = Check.busyAgent();
        Check.send(agent, 3, 0, 8);
        agent.tick(59);
        Check.due("due(1)", agent.due(1), 64);
        agent.tick(63);
        Check.due("status(1, 8)", agent.status(1, 8), Check.WAITING);
        agent.tick(64);
        Check.due("status(1, 3)", agent.status(1, 3), Check.WAITING);
    }

    /** "Then": what can be delivered is delivered first, and what fails by itself fails once. */
    private static void deliversBeforeItGivesUp() {
        MailAgent agent = Check.routedAgent();
        Check.send(agent, 3, 10, 8, 9);
        Check.due("tick(60)", agent.tick(60), 2);
        Check.due("count(0)", agent.count(0), 0);
        Check.due("received(3, 1)", agent.received(3, 1), 0);
        MailAgent mixed = Check.busyAgent();
        Check.send(mixed, 3, 0, 1, 16, 8);
        Check.due("tick(60)", mixed.tick(60), 1);
        Check.due("delivered, failed, failed, report", mixed.count(3), 4);
    }

    /** "due is clock + gap": from the clock, not from the due time that it had. */
    private static void dueIsClockAndGap() {
        MailAgent agent = new MailAgent(3, 20, 1000);
        agent.route(1, 1, 1);
        agent.host(1, Check.BUSY);
        Check.send(agent, -1, 0, 8);
        int[] ticks = {2, 7, 13, 25, 60, 80};
        int[] dues = {5, 13, 25, 45, 80, 100};
        for (int i = 0; i < ticks.length; i++) {
            Check.due("tick(" + ticks[i] + ")", agent.tick(ticks[i]), 0);
            Check.due("due after tick(" + ticks[i] + ")", agent.due(1), dues[i]);
            Check.due("count(3)", agent.count(3), i + 1);
        }
    }

    /** "afterwards gap is doubled, to maxGap at most": one above and one below the greatest. */
    private static void gapIsDoubledToMaxGapAtMost() {
        gapsAre(5, 39, 5, 10, 20, 39, 39);
        gapsAre(5, 41, 5, 10, 20, 40, 41, 41);
        gapsAre(5, 21, 5, 10, 20, 21, 21);
    }

    private static void gapMeetsMaxGap() {
        gapsAre(5, 40, 5, 10, 20, 40, 40, 40);
        gapsAre(1, 512, 1, 2, 4, 8, 16, 32, 64, 128, 256, 512, 512);
    }

    private static void gapThatIsMaxGapStays() {
        gapsAre(1, 1, 1, 1, 1);
        gapsAre(60, 60, 60, 60, 60);
    }

    private static void gapsAre(int minGap, int maxGap, int... gaps) {
        MailAgent agent = new MailAgent(minGap, maxGap, 6000);
        agent.route(1, 1, 1);
        agent.host(1, Check.BUSY);
        Check.send(agent, -1, 0, 8);
        int clock = 0;
        for (int gap : gaps) {
            agent.tick(clock);
            clock += gap;
            Check.due("gaps of " + minGap + " to " + maxGap + ": due", agent.due(1), clock);
        }
    }

    /** "if some are still waiting, the message is PUT OFF": one is enough, and no report is made yet. */
    private static void someAreStillWaiting() {
        MailAgent agent = Check.busyAgent();
        Check.send(agent, 3, 0, 16, 17, 1, 8);
        agent.tick(0);
        Check.due("due(1)", agent.due(1), 5);
        Check.due("sender(1)", agent.sender(1), 3);
        Check.due("count(1)", agent.count(1), 5);
        Check.due("failed, failed, delivered, put off", agent.count(3), 4);
    }

    /** "it becomes a REPORT under its number: its only recipient is the sender, waiting [...]; sender -1, size 0" */
    private static void becomesAReport() {
        MailAgent agent = Check.agent();
        agent.route(5, 6, 0);
        Check.send(agent, 40, 30, 4, 8, 9);
        Check.due("tick(7)", agent.tick(7), 1);
        Check.due("message(0)", agent.message(0), 1);
        Check.due("sender(1)", agent.sender(1), -1);
        Check.due("count(1)", agent.count(1), 2);
        Check.due("count(2)", agent.count(2), 1);
        Check.due("due(1)", agent.due(1), 7);
        for (int address = 0; address < 64; address++) {
            Check.due("status(1, " + address + ")", agent.status(1, address), address == 40 ? Check.WAITING : 0);
        }
        Check.due("tick(8)", agent.tick(8), 1);
        Check.due("received(40, 0)", agent.received(40, 0), 0);
        Check.due("received(40, 1)", agent.received(40, 1), 1);
        Check.due("received(40, 2)", agent.received(40, 2), 1);
        Check.due("received(6, 3)", agent.received(6, 3), 1);
        Check.due("count(0)", agent.count(0), 0);
    }

    /** "If none is waiting, some have failed": one of four, at each place. */
    private static void oneFailureIsEnough() {
        for (int place = 0; place < 4; place++) {
            MailAgent agent = Check.agent();
            int[] addresses = {1, 2, 3, 4};
            addresses[place] = 8;
            Check.send(agent, 5, 0, addresses);
            Check.due("tick(0)", agent.tick(0), 3);
            Check.due("status(1, 5)", agent.status(1, 5), Check.WAITING);
        }
    }

    private static void earlierFailureIsEnough() {
        MailAgent agent = Check.busyAgent();
        Check.send(agent, 3, 0, 16, 8);
        agent.tick(0);
        agent.host(1, Check.UP);
        Check.due("tick(5)", agent.tick(5), 1);
        Check.due("a report all the same", agent.status(1, 3), Check.WAITING);
    }

    /** "Else it LEAVES the queue.": none has failed. */
    private static void noFailureNoReport() {
        MailAgent agent = Check.routedAgent();
        Check.send(agent, 3, 0, 1, 2, 8, 63);
        Check.due("tick(0)", agent.tick(0), 4);
        Check.due("count(0)", agent.count(0), 0);
        Check.due("four delivered, one left", agent.count(3), 5);
        agent.tick(0);
        Check.due("received(3, 1)", agent.received(3, 1), 0);
    }

    /** "Else it LEAVES the queue.": the sender is -1. */
    private static void nobodyGetsNoReport() {
        MailAgent agent = Check.agent();
        Check.send(agent, -1, 0, 8, 1);
        Check.due("tick(0)", agent.tick(0), 1);
        Check.due("count(0)", agent.count(0), 0);
        Check.due("failed, delivered, left", agent.count(3), 3);
    }

    /** "(no alias is followed)" */
    private static void reportFollowsNoAlias() {
        MailAgent agent = Check.agent();
        agent.alias(3, 4);
        Check.send(agent, 3, 0, 8);
        agent.tick(0);
        Check.due("status(1, 3)", agent.status(1, 3), Check.WAITING);
        Check.due("status(1, 4)", agent.status(1, 4), 0);
        Check.due("tick(0)", agent.tick(0), 1);
        Check.due("received(3, 1)", agent.received(3, 1), 1);
        Check.due("received(4, 1)", agent.received(4, 1), 0);
    }

    private static void reportGoesToARecipientToo() {
        MailAgent agent = Check.agent();
        Check.send(agent, 3, 0, 8, 3);
        Check.due("tick(0)", agent.tick(0), 1);
        Check.due("status(1, 3)", agent.status(1, 3), Check.WAITING);
        Check.due("tick(0)", agent.tick(0), 1);
        Check.due("received(3, 0)", agent.received(3, 0), 1);
        Check.due("received(3, 1)", agent.received(3, 1), 1);
    }

    /** "start and due the clock": it is given up giveUp after it became a report, and not a moment before. */
    private static void reportWaitsFromItsOwnStart() {
        MailAgent agent = Check.busyAgent();
        Check.send(agent, 8, 0, 9);
        agent.tick(70);
        Check.due("due(1)", agent.due(1), 70);
        agent.tick(129);
        Check.due("it waits for 59", agent.status(1, 8), Check.WAITING);
        agent.hurry(1);
        agent.tick(130);
        Check.due("and is given up after 60", agent.count(0), 0);
    }

    /** "gap minGap" */
    private static void reportIsPutOffFromMinGap() {
        MailAgent agent = Check.busyAgent();
        Check.send(agent, 8, 0, 9);
        agent.tick(0);
        agent.tick(5);
        Check.due("the second gap", agent.due(1), 15);
        agent.tick(60);
        Check.due("the report is due at once", agent.due(1), 60);
        agent.tick(61);
        Check.due("the report's gap is minGap", agent.due(1), 66);
        agent.tick(66);
        Check.due("and doubled", agent.due(1), 76);
    }

    /** "the sender is not -1": a report's sender is -1, so no report is made of a report. */
    private static void reportThatFailsLeaves() {
        MailAgent agent = Check.agent();
        Check.send(agent, 40, 0, 8);
        agent.tick(0);
        Check.due("status(1, 40)", agent.status(1, 40), Check.WAITING);
        Check.due("tick(0)", agent.tick(0), 0);
        Check.due("count(0)", agent.count(0), 0);
        Check.due("failed, report, failed, left", agent.count(3), 4);
    }

    /** From 3 to 8 and 9 by a busy host, with a giveUp of 60, put off once and due again; no change since. */
    private static MailAgent agentWithTwoWaitingFrom(int start) {
        MailAgent agent = Check.busyAgent();
        agent.tick(start);
        Check.send(agent, 3, 10, 8, 9);
        agent.tick(start);
        agent.hurry(1);
        agent.sync();
        return agent;
    }
}
