/** Promise 15: count. */
public final class Promise15CountTest {
    public static void main(String[] args) {
        countsAllSeven();
        countsFailedAndDeliveredAsNotWaiting();
        refusesAnotherWhat();
        Check.end();
    }

    private static void countsAllSeven() {
        MailAgent agent = Check.routedAgent();
        agent.host(1, Check.BUSY);
        countsAre(agent, 0, 0, 0, 0, 0, 0, -1);
        agent.from(3);
        countsAre(agent, 0, 0, 0, 0, 0, 0, 0);
        agent.to(1);
        agent.to(8);
        countsAre(agent, 0, 0, 0, 0, 0, 0, 2);
        agent.data(20);
        countsAre(agent, 1, 23, 2, 0, 0, 1, -1);
        Check.send(agent, 4, 5, 2);
        countsAre(agent, 2, 30, 3, 0, 0, 2, -1);
        agent.tick(6);
        countsAre(agent, 1, 23, 1, 4, 6, 2, -1);
        agent.drop(1);
        countsAre(agent, 0, 0, 0, 5, 6, 2, -1);
        agent.crash();
        countsAre(agent, 2, 30, 3, 0, 6, 2, -1);
        agent.drop(2);
        agent.sync();
        countsAre(agent, 1, 23, 2, 0, 6, 2, -1);
    }

    private static void countsFailedAndDeliveredAsNotWaiting() {
        MailAgent agent = Check.busyAgent();
        Check.send(agent, 3, 0, 1, 8, 16, 9);
        agent.tick(0);
        countsAre(agent, 1, 5, 2, 3, 0, 1, -1);
    }

    private static void refusesAnotherWhat() {
        MailAgent agent = Check.agent();
        for (int what : new int[] {-1, 7, 8, Integer.MIN_VALUE, Integer.MAX_VALUE}) {
            Check.due("count(" + what + ")", agent.count(what), MailAgent.SYNTAX);
        }
    }

    private static void countsAre(MailAgent agent, int... counts) {
        for (int what = 0; what < counts.length; what++) {
            Check.due("count(" + what + ")", agent.count(what), counts[what]);
        }
    }
}
