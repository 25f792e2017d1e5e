/** Promise 6: host, and what the states mean for an attempt. */
public final class Promise06HostTest {
    public static void main(String[] args) {
        answersTheStateItHad();
        statesRuleTheAttempt();
        refusesWhatIsOutOfRange();
        outlivesCrash();
        Check.end();
    }

    private static void answersTheStateItHad() {
        MailAgent agent = Check.agent();
        for (int host = 0; host < 8; host++) {
            Check.due("to BUSY", agent.host(host, Check.BUSY), Check.UP);
            Check.due("to BUSY again", agent.host(host, Check.BUSY), Check.BUSY);
            Check.due("to GONE", agent.host(host, Check.GONE), Check.BUSY);
            Check.due("to UP", agent.host(host, Check.UP), Check.GONE);
        }
    }

    private static void statesRuleTheAttempt() {
        // Each row: the states of the first and the second host, then the state that the recipient gets.
        int[][] rows = {
            {Check.UP, Check.UP, Check.DELIVERED, 1}, {Check.UP, Check.BUSY, Check.DELIVERED, 1},
            {Check.UP, Check.GONE, Check.DELIVERED, 1}, {Check.BUSY, Check.UP, Check.DELIVERED, 2},
            {Check.BUSY, Check.BUSY, Check.WAITING, 0}, {Check.BUSY, Check.GONE, Check.FAILED, 0},
            {Check.GONE, Check.UP, Check.FAILED, 0}, {Check.GONE, Check.BUSY, Check.FAILED, 0},
            {Check.GONE, Check.GONE, Check.FAILED, 0}};
        for (int[] row : rows) {
            MailAgent agent = Check.agent();
            agent.route(1, 1, 1);
            agent.route(1, 2, 2);
            agent.route(2, 3, 0);
            agent.host(3, Check.BUSY);
            agent.host(1, row[0]);
            agent.host(2, row[1]);
            // The second recipient keeps the message in the queue, so that the first one's state can be seen.
            int number = Check.send(agent, 5, 0, 8, 16);
            String told = "hosts " + row[0] + " and " + row[1] + ": ";
            Check.due(told + "tick(0)", agent.tick(0), row[2] == Check.DELIVERED ? 1 : 0);
            Check.due(told + "status", agent.status(number, 8), row[2]);
            Check.due(told + "carried by 1", agent.received(1, 3), row[3] == 1 ? 1 : 0);
            Check.due(told + "carried by 2", agent.received(2, 3), row[3] == 2 ? 1 : 0);
        }
    }

    private static void refusesWhatIsOutOfRange() {
        MailAgent agent = Check.agent();
        agent.host(0, Check.BUSY);
        int[][] wrong = {{-1, 0}, {8, 0}, {0, -1}, {0, 3}, {Integer.MIN_VALUE, 0}, {0, Integer.MAX_VALUE}};
        for (int[] pair : wrong) {
            Check.due("host(" + pair[0] + ", " + pair[1] + ")", agent.host(pair[0], pair[1]), MailAgent.SYNTAX);
        }
        Check.due("host(0, 0)", agent.host(0, 0), Check.BUSY);
    }

    private static void outlivesCrash() {
        MailAgent agent = Check.agent();
        agent.host(4, Check.GONE);
        agent.crash();
        Check.due("host(4, 0)", agent.host(4, 0), Check.GONE);
    }
}
