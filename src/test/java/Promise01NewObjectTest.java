/** Promise 1: a new object, and how its three numbers are clamped. */
public final class Promise01NewObjectTest {
    private static final int MIN = Integer.MIN_VALUE;
    private static final int MAX = Integer.MAX_VALUE;

    public static void main(String[] args) {
        allIsEmptyAtFirst();
        constantsAreAsTold();
        minGapTooSmall();
        minGapInside();
        minGapTooLarge();
        maxGapTooSmall();
        maxGapInside();
        maxGapTooLarge();
        maxGapIsClampedAfterMinGap();
        giveUpTooSmall();
        giveUpInside();
        giveUpTooLarge();
        giveUpIsClampedAfterMaxGap();
        objectsShareNothing();
        Check.end();
    }

    private static void allIsEmptyAtFirst() {
        MailAgent agent = Check.agent();
        int[] counts = {0, 0, 0, 0, 0, 0, -1};
        for (int what = 0; what < counts.length; what++) {
            Check.due("count(" + what + ")", agent.count(what), counts[what]);
        }
        Check.due("message(0)", agent.message(0), 0);
        Check.due("to(1)", agent.to(1), MailAgent.SEQUENCE);
        Check.due("data(1)", agent.data(1), MailAgent.SEQUENCE);
        for (int i = 0; i < 8; i++) {
            Check.due("unalias(" + i + ")", agent.unalias(i), 0);
            Check.due("host(" + i + ", 0)", agent.host(i, 0), Check.UP);
            Check.due("received(" + i + ", 3)", agent.received(i, 3), 0);
        }
        for (int domain = 1; domain < 8; domain++) {
            Check.due("unroute(" + domain + ")", agent.unroute(domain), 0);
        }
        for (int address = 0; address < 64; address++) {
            for (int what = 0; what < 3; what++) {
                Check.due("received(" + address + ", " + what + ")", agent.received(address, what), 0);
            }
        }
        Check.due("sync()", agent.sync(), 0);
        Check.due("crash()", agent.crash(), 0);
    }

    private static void constantsAreAsTold() {
        Check.due("SYNTAX", MailAgent.SYNTAX, -501);
        Check.due("SEQUENCE", MailAgent.SEQUENCE, -503);
        Check.due("UNKNOWN", MailAgent.UNKNOWN, -550);
        Check.due("FULL", MailAgent.FULL, -452);
    }

    /** "minGap is clamped to 1 .. 60" */
    private static void minGapTooSmall() {
        gapsAre(0, 600, 6000, 1, 2, 4, 8, 16, 32, 64, 128, 256, 512, 600, 600);
        gapsAre(-1, 600, 6000, 1, 2, 4);
        gapsAre(MIN, 600, 6000, 1, 2, 4);
    }

    /** "minGap is clamped to 1 .. 60" */
    private static void minGapInside() {
        gapsAre(1, 600, 6000, 1, 2, 4);
        gapsAre(2, 600, 6000, 2, 4, 8);
        gapsAre(59, 600, 6000, 59, 118, 236, 472, 600, 600);
        gapsAre(60, 600, 6000, 60, 120, 240, 480, 600, 600);
    }

    /** "minGap is clamped to 1 .. 60" */
    private static void minGapTooLarge() {
        gapsAre(61, 600, 6000, 60, 120);
        gapsAre(600, 600, 6000, 60, 120);
        gapsAre(MAX, 600, 6000, 60, 120);
    }

    /** "then maxGap to minGap .. 600" */
    private static void maxGapTooSmall() {
        gapsAre(10, 9, 6000, 10, 10, 10);
        gapsAre(10, 0, 6000, 10, 10);
        gapsAre(10, -1, 6000, 10, 10);
        gapsAre(10, MIN, 6000, 10, 10);
    }

    /** "then maxGap to minGap .. 600" */
    private static void maxGapInside() {
        gapsAre(10, 10, 6000, 10, 10, 10);
        gapsAre(10, 11, 6000, 10, 11, 11);
        gapsAre(60, 599, 6000, 60, 120, 240, 480, 599, 599);
        gapsAre(60, 600, 6000, 60, 120, 240, 480, 600, 600);
    }

    /** "then maxGap to minGap .. 600" */
    private static void maxGapTooLarge() {
        gapsAre(60, 601, 6000, 60, 120, 240, 480, 600, 600);
        gapsAre(60, 6000, 6000, 60, 120, 240, 480, 600, 600);
        gapsAre(60, MAX, 6000, 60, 120, 240, 480, 600, 600);
    }

    /** "then": the bound is the minGap that has been clamped. */
    private static void maxGapIsClampedAfterMinGap() {
        gapsAre(100, 70, 6000, 60, 70, 70);
        gapsAre(100, 1, 6000, 60, 60, 60);
        gapsAre(-5, -5, 6000, 1, 1, 1);
        gapsAre(MIN, MIN, MAX, 1, 1, 1);
        gapsAre(MAX, MIN, MAX, 60, 60, 60);
        gapsAre(700, 650, 6000, 60, 120, 240, 480, 600, 600);
    }

    /** "then giveUp to maxGap .. 6000" */
    private static void giveUpTooSmall() {
        givesUpAfter(5, 20, 19, 20);
        givesUpAfter(5, 20, 0, 20);
        givesUpAfter(5, 20, -1, 20);
        givesUpAfter(5, 20, MIN, 20);
        givesUpAfter(1, 600, 599, 600);
    }

    /** "then giveUp to maxGap .. 6000" */
    private static void giveUpInside() {
        givesUpAfter(5, 20, 20, 20);
        givesUpAfter(5, 20, 21, 21);
        givesUpAfter(1, 1, 1, 1);
        givesUpAfter(1, 1, 2, 2);
        givesUpAfter(1, 600, 600, 600);
        givesUpAfter(1, 600, 601, 601);
        givesUpAfter(1, 1, 5999, 5999);
        givesUpAfter(1, 1, 6000, 6000);
    }

    /** "then giveUp to maxGap .. 6000" */
    private static void giveUpTooLarge() {
        givesUpAfter(1, 1, 6001, 6000);
        givesUpAfter(60, 600, 60000, 6000);
        givesUpAfter(1, 1, MAX, 6000);
    }

    /** "then": the bound is the maxGap that has been clamped. */
    private static void giveUpIsClampedAfterMaxGap() {
        givesUpAfter(10, 5, 7, 10);
        givesUpAfter(70, 1, 1, 60);
        givesUpAfter(1, 700, 650, 650);
        givesUpAfter(1, 700, 1, 600);
        givesUpAfter(0, 0, 0, 1);
        givesUpAfter(MIN, MIN, MIN, 1);
        givesUpAfter(MAX, MAX, MAX, 6000);
    }

    private static void objectsShareNothing() {
        MailAgent first = Check.routedAgent();
        MailAgent second = Check.agent();
        first.alias(1, 2);
        first.host(3, Check.BUSY);
        Check.send(first, 9, 5, 3, 8);
        first.tick(7);
        Check.due("second count(5)", second.count(5), 0);
        Check.due("second count(4)", second.count(4), 0);
        Check.due("second unalias(1)", second.unalias(1), 0);
        Check.due("second unroute(1)", second.unroute(1), 0);
        Check.due("second host(3, 0)", second.host(3, 0), Check.UP);
        Check.due("second received(3, 0)", second.received(3, 0), 0);
    }

    private static void gapsAre(int minGap, int maxGap, int giveUp, int... gaps) {
        MailAgent agent = new MailAgent(minGap, maxGap, giveUp);
        int number = sendToBusyHost(agent);
        int clock = 0;
        for (int gap : gaps) {
            agent.tick(clock);
            clock += gap;
            Check.due("made with " + minGap + " " + maxGap + " " + giveUp + ": due after a gap of " + gap,
                agent.due(number), clock);
        }
    }

    private static void givesUpAfter(int minGap, int maxGap, int giveUp, int time) {
        MailAgent agent = new MailAgent(minGap, maxGap, giveUp);
        String made = "made with " + minGap + " " + maxGap + " " + giveUp;
        int number = sendToBusyHost(agent);
        agent.tick(time - 1);
        Check.due(made + ": status before " + time, agent.status(number, 8), Check.WAITING);
        agent.hurry(number);
        agent.tick(time);
        Check.due(made + ": messages after " + time, agent.count(0), 0);
    }

    private static int sendToBusyHost(MailAgent agent) {
        agent.route(1, 0, 0);
        agent.host(0, Check.BUSY);
        return Check.send(agent, -1, 0, 8);
    }
}
