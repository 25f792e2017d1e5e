/** Promise 1: a new object, and how its three numbers are clamped. */
public final class Promise01NewObjectTest {
    public static void main(String[] args) {
        allIsEmptyAtFirst();
        constantsAreAsTold();
        minGapIsClamped();
        maxGapIsClamped();
        giveUpIsClamped();
        objectsShareNothing();
        Check.end();
    }

    private static void allIsEmptyAtFirst() {
        MailAgent agent = Check.agent();
        int[] counts = {0, 0, 0, 0, 0, 0, -1};
        for (int what = 0; what < counts.length; what++) {
            Check.due("count(" + what + ")", agent.count(what), counts[what]);
        }
        Check.due("message(0)", agent.message(0), 0);
        Check.due("to(1)", agent.to(1), MailAgent.SEQUENCE);
        Check.due("data(1)", agent.data(1), MailAgent.SEQUENCE);
        for (int i = 0; i < 8; i++) {
            Check.due("unalias(" + i + ")", agent.unalias(i), 0);
            Check.due("host(" + i + ", 0)", agent.host(i, 0), Check.UP);
            Check.due("received(" + i + ", 3)", agent.received(i, 3), 0);
        }
        for (int domain = 1; domain < 8; domain++) {
            Check.due("unroute(" + domain + ")", agent.unroute(domain), 0);
        }
        for (int address = 0; address < 64; address++) {
            for (int what = 0; what < 3; what++) {
                Check.due("received(" + address + ", " + what + ")", agent.received(address, what), 0);
            }
        }
        Check.due("sync()", agent.sync(), 0);
        Check.due("crash()", agent.crash(), 0);
    }

    private static void constantsAreAsTold() {
        Check.due("SYNTAX", MailAgent.SYNTAX, -501);
        Check.due("SEQUENCE", MailAgent.SEQUENCE, -503);
        Check.due("UNKNOWN", MailAgent.UNKNOWN, -550);
        Check.due("FULL", MailAgent.FULL, -452);
    }

    private static void minGapIsClamped() {
        gapsAre(new MailAgent(0, 600, 6000), "0 600 6000", 1, 2, 4, 8, 16, 32, 64, 128, 256, 512, 600, 600);
        gapsAre(new MailAgent(-5, 600, 6000), "-5 600 6000", 1, 2);
        gapsAre(new MailAgent(Integer.MIN_VALUE, 600, 6000), "MIN 600 6000", 1, 2);
        gapsAre(new MailAgent(1, 600, 6000), "1 600 6000", 1, 2);
        gapsAre(new MailAgent(2, 600, 6000), "2 600 6000", 2, 4);
        gapsAre(new MailAgent(59, 600, 6000), "59 600 6000", 59, 118);
        gapsAre(new MailAgent(60, 600, 6000), "60 600 6000", 60, 120);
        gapsAre(new MailAgent(61, 600, 6000), "61 600 6000", 60, 120);
        gapsAre(new MailAgent(Integer.MAX_VALUE, 600, 6000), "MAX 600 6000", 60, 120);
    }

    private static void maxGapIsClamped() {
        gapsAre(new MailAgent(10, 5, 6000), "10 5 6000", 10, 10);
        gapsAre(new MailAgent(10, Integer.MIN_VALUE, 6000), "10 MIN 6000", 10, 10);
        gapsAre(new MailAgent(10, 10, 6000), "10 10 6000", 10, 10);
        gapsAre(new MailAgent(10, 11, 6000), "10 11 6000", 10, 11, 11);
        gapsAre(new MailAgent(100, 1, 6000), "100 1 6000", 60, 60);
        gapsAre(new MailAgent(60, 599, 6000), "60 599 6000", 60, 120, 240, 480, 599, 599);
        gapsAre(new MailAgent(60, 600, 6000), "60 600 6000", 60, 120, 240, 480, 600, 600);
        gapsAre(new MailAgent(60, 601, 6000), "60 601 6000", 60, 120, 240, 480, 600, 600);
        gapsAre(new MailAgent(60, Integer.MAX_VALUE, 6000), "60 MAX 6000", 60, 120, 240, 480, 600, 600);
    }

    private static void giveUpIsClamped() {
        givesUpAfter(new MailAgent(0, 0, 0), "0 0 0", 1);
        givesUpAfter(new MailAgent(5, 20, 3), "5 20 3", 20);
        givesUpAfter(new MailAgent(5, 20, Integer.MIN_VALUE), "5 20 MIN", 20);
        givesUpAfter(new MailAgent(5, 20, 20), "5 20 20", 20);
        givesUpAfter(new MailAgent(5, 20, 21), "5 20 21", 21);
        givesUpAfter(new MailAgent(70, 1, 1), "70 1 1", 60);
        givesUpAfter(new MailAgent(1, 700, 1), "1 700 1", 600);
        givesUpAfter(new MailAgent(1, 1, 5999), "1 1 5999", 5999);
        givesUpAfter(new MailAgent(1, 1, 6000), "1 1 6000", 6000);
        givesUpAfter(new MailAgent(1, 1, 6001), "1 1 6001", 6000);
        givesUpAfter(new MailAgent(1, 1, Integer.MAX_VALUE), "1 1 MAX", 6000);
    }

    private static void objectsShareNothing() {
        MailAgent first = Check.routedAgent();
        MailAgent second = Check.agent();
        first.alias(1, 2);
        first.host(3, Check.BUSY);
        Check.send(first, 9, 5, 3, 8);
        first.tick(7);
        Check.due("second count(5)", second.count(5), 0);
        Check.due("second count(4)", second.count(4), 0);
        Check.due("second unalias(1)", second.unalias(1), 0);
        Check.due("second unroute(1)", second.unroute(1), 0);
        Check.due("second host(3, 0)", second.host(3, 0), Check.UP);
        Check.due("second received(3, 0)", second.received(3, 0), 0);
    }

    private static void gapsAre(MailAgent agent, String made, int... gaps) {
        int number = sendToBusyHost(agent);
        int clock = 0;
        for (int gap : gaps) {
            agent.tick(clock);
            clock += gap;
            Check.due("made with " + made + ": due after a gap of " + gap, agent.due(number), clock);
        }
    }

    private static void givesUpAfter(MailAgent agent, String made, int time) {
        int number = sendToBusyHost(agent);
        agent.tick(time - 1);
        Check.due("made with " + made + ": status before", agent.status(number, 8), Check.WAITING);
        agent.hurry(number);
        agent.tick(time);
        Check.due("made with " + made + ": messages after " + time, agent.count(0), 0);
    }

    private static int sendToBusyHost(MailAgent agent) {
        agent.route(1, 0, 0);
        agent.host(0, Check.BUSY);
        return Check.send(agent, -1, 0, 8);
    }
}
