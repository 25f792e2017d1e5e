/** Promise 20: received. */
public final class Promise20ReceivedTest {
    public static void main(String[] args) {
        countsLettersAndReportsApart();
        aLetterOfNobodyIsNoReport();
        countsWhatHostsCarry();
        tellsTheLastNumber();
        refusesWhatIsOutOfRange();
        Check.end();
    }

    private static void countsLettersAndReportsApart() {
        MailAgent agent = Check.agent();
        Check.send(agent, 7, 0, 7);
        Check.send(agent, 7, 0, 0);
        Check.send(agent, 7, 0, 63);
        Check.due("tick(0)", agent.tick(0), 2);
        Check.due("tick(0)", agent.tick(0), 1);
        receivedAre(agent, 7, 1, 1, 3);
        receivedAre(agent, 0, 1, 0, 2);
        receivedAre(agent, 63, 0, 0, 0);
        Check.send(agent, 7, 0, 7);
        agent.tick(0);
        receivedAre(agent, 7, 2, 1, 4);
    }

    private static void aLetterOfNobodyIsNoReport() {
        MailAgent agent = Check.agent();
        Check.send(agent, -1, 0, 7);
        agent.tick(0);
        receivedAre(agent, 7, 1, 0, 1);
        // The same place in the queue holds first a report and then a letter.
        Check.send(agent, 6, 0, 8);
        agent.tick(0);
        agent.tick(0);
        receivedAre(agent, 6, 0, 1, 2);
        Check.send(agent, -1, 0, 6);
        agent.tick(0);
        receivedAre(agent, 6, 1, 1, 3);
    }

    private static void countsWhatHostsCarry() {
        MailAgent agent = Check.agent();
        agent.route(1, 0, 0);
        agent.route(7, 7, 0);
        Check.send(agent, 8, 0, 8, 9, 63, 1);
        Check.send(agent, 8, 0, 16);
        Check.due("tick(0)", agent.tick(0), 4);
        Check.due("tick(0)", agent.tick(0), 1);
        Check.due("received(0, 3), a report too", agent.received(0, 3), 3);
        Check.due("received(7, 3)", agent.received(7, 3), 1);
        Check.due("received(1, 3)", agent.received(1, 3), 0);
        receivedAre(agent, 63, 1, 0, 1);
        receivedAre(agent, 8, 1, 1, 2);
        receivedAre(agent, 9, 1, 0, 1);
        receivedAre(agent, 16, 0, 0, 0);
    }

    private static void tellsTheLastNumber() {
        MailAgent agent = Check.routedAgent();
        agent.host(1, Check.BUSY);
        Check.send(agent, -1, 0, 8);
        agent.tick(0);
        agent.host(1, Check.UP);
        Check.send(agent, -1, 0, 8);
        agent.tick(0);
        receivedAre(agent, 8, 1, 0, 2);
        agent.tick(5);
        Check.due("the last is not the greatest", agent.received(8, 2), 1);
    }

    private static void refusesWhatIsOutOfRange() {
        MailAgent agent = Check.agent();
        int[][] wrong = {{0, -1}, {0, 4}, {-1, 0}, {64, 0}, {-1, 1}, {64, 1}, {-1, 2}, {64, 2}, {-1, 3}, {8, 3},
            {63, 3}, {63, 4}, {0, Integer.MIN_VALUE}, {0, Integer.MAX_VALUE}, {Integer.MIN_VALUE, 2},
            {Integer.MAX_VALUE, 3}};
        for (int[] pair : wrong) {
            Check.due("received(" + pair[0] + ", " + pair[1] + ")",
                agent.received(pair[0], pair[1]), MailAgent.SYNTAX);
        }
    }

    private static void receivedAre(MailAgent agent, int address, int letters, int reports, int last) {
        Check.due("received(" + address + ", 0)", agent.received(address, 0), letters);
        Check.due("received(" + address + ", 1)", agent.received(address, 1), reports);
        Check.due("received(" + address + ", 2)", agent.received(address, 2), last);
    }
}
