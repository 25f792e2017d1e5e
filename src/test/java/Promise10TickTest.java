/** Promise 10: tick. What an attempt does is in TermsAttemptTest. */
public final class Promise10TickTest {
    public static void main(String[] args) {
        setsTheClock();
        timeIsNotBeforeTheClock();
        timeIsNotAboveTheLast();
        refusedSetsNoClock();
        refusedMakesNoAttempt();
        dueTimeIsNotAboveIt();
        dueTimeIsAboveIt();
        lastTimeIsTimeToo();
        attemptsByRisingNumber();
        attemptsEachMessageOnce();
        attemptsAllAfterOneHasLeft();
        emptyQueue();
        fullQueue();
        answersHowManyWereDelivered();
        Check.end();
    }

    /** "Sets the clock to time" */
    private static void setsTheClock() {
        MailAgent agent = Check.agent();
        for (int time : new int[] {0, 0, 1, 500, 500, 999999, 1000000, 1000000}) {
            Check.due("tick(" + time + ")", agent.tick(time), 0);
            Check.due("count(4)", agent.count(4), time);
        }
    }

    /** "(from the clock to 1000000; else SYNTAX)": the clock itself is allowed, what is before it is not. */
    private static void timeIsNotBeforeTheClock() {
        for (int clock : new int[] {0, 1, 50, 256, 65536, 999999, 1000000}) {
            MailAgent agent = Check.agent();
            agent.tick(clock);
            for (int time : new int[] {clock - 1, -1, clock - 65536 - 1, Integer.MIN_VALUE}) {
                Check.due("tick(" + time + ") at " + clock, agent.tick(time), MailAgent.SYNTAX);
            }
            Check.due("count(4)", agent.count(4), clock);
            Check.due("tick(" + clock + ") again", agent.tick(clock), 0);
        }
    }

    /** "(from the clock to 1000000; else SYNTAX)": the last time is allowed, what is above it is not. */
    private static void timeIsNotAboveTheLast() {
        for (int clock : new int[] {0, 999999, 1000000}) {
            MailAgent agent = Check.agent();
            agent.tick(clock);
            for (int time : new int[] {1000001, 1000002, 1 << 24, Integer.MAX_VALUE}) {
                Check.due("tick(" + time + ") at " + clock, agent.tick(time), MailAgent.SYNTAX);
            }
            Check.due("count(4)", agent.count(4), clock);
            Check.due("tick(1000000)", agent.tick(1000000), 0);
            Check.due("count(4)", agent.count(4), 1000000);
        }
    }

    private static void refusedSetsNoClock() {
        MailAgent agent = Check.agent();
        agent.tick(50);
        for (int time : new int[] {49, 0, -1, 1000001, Integer.MIN_VALUE, Integer.MAX_VALUE}) {
            Check.due("tick(" + time + ")", agent.tick(time), MailAgent.SYNTAX);
            Check.due("count(4)", agent.count(4), 50);
        }
        Check.send(agent, -1, 0, 1);
        Check.due("a new message's due time", agent.due(1), 50);
    }

    private static void refusedMakesNoAttempt() {
        MailAgent agent = Check.agent();
        agent.tick(50);
        Check.send(agent, -1, 0, 1);
        for (int time : new int[] {49, 0, -1, 1000001, Integer.MIN_VALUE, Integer.MAX_VALUE}) {
            Check.due("tick(" + time + ")", agent.tick(time), MailAgent.SYNTAX);
        }
        Check.due("count(0)", agent.count(0), 1);
        Check.due("count(3)", agent.count(3), 0);
        Check.due("status(1, 1)", agent.status(1, 1), Check.WAITING);
        Check.due("received(1, 0)", agent.received(1, 0), 0);
        Check.due("tick(50)", agent.tick(50), 1);
    }

    /** "each message of the queue whose due time is not above it": one that is due at the time is tried. */
    private static void dueTimeIsNotAboveIt() {
        for (int late = 0; late < 3; late++) {
            MailAgent agent = agentWithMessageDueAtFive();
            Check.due("tick(" + (5 + late) + ")", agent.tick(5 + late), 1);
            Check.due("count(0)", agent.count(0), 0);
        }
    }

    /** "each message of the queue whose due time is not above it": one that is due a moment later is not tried. */
    private static void dueTimeIsAboveIt() {
        MailAgent agent = agentWithMessageDueAtFive();
        agent.sync();
        for (int time = 0; time < 5; time++) {
            Check.due("tick(" + time + ")", agent.tick(time), 0);
            Check.due("due(1)", agent.due(1), 5);
            Check.due("count(3)", agent.count(3), 0);
        }
        Check.due("tick(5)", agent.tick(5), 1);
    }

    private static void lastTimeIsTimeToo() {
        MailAgent agent = Check.busyAgent();
        Check.send(agent, -1, 0, 8);
        agent.tick(999999);
        Check.due("gone, since it waited too long", agent.count(0), 0);
        Check.send(agent, -1, 0, 8);
        agent.tick(1000000);
        Check.due("put off beyond the last time", agent.due(2), 1000005);
        agent.host(1, Check.UP);
        Check.due("not due any more", agent.tick(1000000), 0);
        agent.hurry(2);
        Check.due("due by hurry", agent.tick(1000000), 1);
    }

    /** "by rising number" */
    private static void attemptsByRisingNumber() {
        MailAgent agent = Check.agent();
        for (int number = 1; number <= 6; number++) {
            Check.send(agent, -1, 0, 3, number % 2 + 4);
            Check.due("tick(0)", agent.tick(0), 2 * number);
            Check.due("the last one for 3", agent.received(3, 2), number);
            agent.crash();
        }
        Check.due("all six", agent.tick(0), 12);
        Check.due("the last one for 3", agent.received(3, 2), 6);
        Check.due("the last even one", agent.received(4, 2), 6);
        Check.due("the last odd one", agent.received(5, 2), 5);
    }

    /** "one attempt each": a report is due at once and still waits for the next tick. */
    private static void attemptsEachMessageOnce() {
        MailAgent agent = Check.agent();
        Check.send(agent, 3, 0, 8);
        Check.due("tick(10)", agent.tick(10), 0);
        Check.due("due of the report", agent.due(1), 10);
        Check.due("received(3, 1)", agent.received(3, 1), 0);
        Check.due("failed, report", agent.count(3), 2);
        Check.due("tick(10)", agent.tick(10), 1);
        Check.due("received(3, 1)", agent.received(3, 1), 1);
    }

    /** None is left out when one before it leaves the queue: all the ways in which six may leave or stay. */
    private static void attemptsAllAfterOneHasLeft() {
        for (int leaving = 0; leaving < 64; leaving++) {
            MailAgent agent = Check.busyAgent();
            for (int i = 0; i < 6; i++) {
                Check.send(agent, -1, 0, (leaving >> i & 1) == 1 ? i : 8 + i);
            }
            Check.due("tick(3)", agent.tick(3), Integer.bitCount(leaving));
            int k = 0;
            for (int i = 0; i < 6; i++) {
                boolean stays = (leaving >> i & 1) == 0;
                Check.due("due(" + (i + 1) + ")", agent.due(i + 1), stays ? 8 : -1);
                if (stays) {
                    Check.due("message(" + k + ")", agent.message(k), i + 1);
                    k++;
                }
            }
            Check.due("count(0)", agent.count(0), k);
        }
    }

    private static void emptyQueue() {
        MailAgent agent = Check.agent();
        Check.due("tick(0)", agent.tick(0), 0);
        Check.due("tick(1000000)", agent.tick(1000000), 0);
        Check.due("count(3)", agent.count(3), 0);
    }

    private static void fullQueue() {
        MailAgent agent = Check.agent();
        for (int i = 0; i < 6; i++) {
            Check.send(agent, -1, 5, 1, 2, 3, 4);
        }
        Check.due("count(1)", agent.count(1), 60);
        Check.due("tick(0)", agent.tick(0), 24);
        Check.due("count(0)", agent.count(0), 0);
        Check.due("count(1)", agent.count(1), 0);
    }

    /** "Answers how many recipients were delivered.": not those that fail, wait, or were delivered before. */
    private static void answersHowManyWereDelivered() {
        MailAgent agent = Check.busyAgent();
        Check.send(agent, 3, 0, 1, 8, 16, 2);
        Check.send(agent, 4, 0, 16);
        Check.due("two of four", agent.tick(0), 2);
        Check.due("a report", agent.tick(1), 1);
        agent.host(1, Check.UP);
        Check.due("one that waited", agent.tick(5), 1);
        Check.due("its report", agent.tick(5), 1);
        Check.due("nothing is left", agent.tick(5), 0);
    }

    /** Host 1 is UP again. */
    private static MailAgent agentWithMessageDueAtFive() {
        MailAgent agent = Check.busyAgent();
        Check.send(agent, -1, 0, 8);
        agent.tick(0);
        Check.due("due(1)", agent.due(1), 5);
        agent.host(1, Check.UP);
        return agent;
    }
}
