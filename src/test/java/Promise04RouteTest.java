/** Promise 4: route, and the order in which routes are tried. */
public final class Promise04RouteTest {
    public static void main(String[] args) {
        addsRoutesUpToThree();
        keepsDomainsApart();
        triesByPreference();
        triesEqualOnesAsEntered();
        refusesWhatIsOutOfRange();
        outlivesCrash();
        Check.end();
    }

    private static void addsRoutesUpToThree() {
        MailAgent agent = Check.agent();
        Check.due("route(7, 0, 0)", agent.route(7, 0, 0), 1);
        Check.due("the same host", agent.route(7, 0, 50), MailAgent.FULL);
        Check.due("route(7, 7, 99)", agent.route(7, 7, 99), 2);
        Check.due("route(7, 3, 99)", agent.route(7, 3, 99), 3);
        Check.due("a fourth route", agent.route(7, 4, 1), MailAgent.FULL);
        Check.due("one of the three again", agent.route(7, 3, 1), MailAgent.FULL);
        Check.due("unroute(7)", agent.unroute(7), 3);
        Check.due("route(7, 3, 1)", agent.route(7, 3, 1), 1);
    }

    private static void keepsDomainsApart() {
        MailAgent agent = Check.agent();
        for (int domain = 1; domain < 8; domain++) {
            Check.due("route(" + domain + ", 0, 1)", agent.route(domain, 0, 1), 1);
        }
        Check.due("unroute(1)", agent.unroute(1), 1);
        Check.due("unroute(2)", agent.unroute(2), 1);
    }

    private static void triesByPreference() {
        int[][] orders = {{1, 2, 3}, {1, 3, 2}, {2, 1, 3}, {2, 3, 1}, {3, 1, 2}, {3, 2, 1}};
        for (int[] order : orders) {
            MailAgent agent = Check.agent();
            for (int preference : order) {
                agent.route(1, preference, preference * 10);
            }
            carriedOneAfterAnother(agent, 1, 2, 3);
        }
        MailAgent edges = Check.agent();
        edges.route(1, 0, 99);
        edges.route(1, 1, 0);
        edges.route(1, 2, 98);
        carriedOneAfterAnother(edges, 1, 2, 0);
    }

    private static void triesEqualOnesAsEntered() {
        MailAgent agent = Check.agent();
        agent.route(1, 6, 7);
        agent.route(1, 2, 7);
        agent.route(1, 4, 7);
        carriedOneAfterAnother(agent, 6, 2, 4);
        MailAgent mixed = Check.agent();
        mixed.route(1, 6, 7);
        mixed.route(1, 2, 7);
        mixed.route(1, 4, 3);
        carriedOneAfterAnother(mixed, 4, 6, 2);
    }

    private static void refusesWhatIsOutOfRange() {
        MailAgent agent = Check.agent();
        int[][] wrong = {{0, 1, 1}, {8, 1, 1}, {-1, 1, 1}, {1, -1, 1}, {1, 8, 1}, {1, 1, -1}, {1, 1, 100},
            {Integer.MIN_VALUE, 1, 1}, {1, Integer.MAX_VALUE, 1}, {1, 1, Integer.MAX_VALUE}};
        for (int[] row : wrong) {
            Check.due("route(" + row[0] + ", " + row[1] + ", " + row[2] + ")",
                agent.route(row[0], row[1], row[2]), MailAgent.SYNTAX);
        }
        for (int host = 0; host < 3; host++) {
            agent.route(1, host, 1);
        }
        Check.due("range before room", agent.route(1, 8, 1), MailAgent.SYNTAX);
        Check.due("unroute(1)", agent.unroute(1), 3);
    }

    private static void outlivesCrash() {
        MailAgent agent = Check.agent();
        agent.route(1, 1, 1);
        agent.crash();
        Check.due("unroute(1)", agent.unroute(1), 1);
    }

    /** Sends to domain 1 and then makes the host that carried it busy, so that the next one has to. */
    private static void carriedOneAfterAnother(MailAgent agent, int... hosts) {
        for (int host : hosts) {
            Check.send(agent, -1, 0, 8);
            Check.due("tick(0)", agent.tick(0), 1);
            Check.due("received(" + host + ", 3)", agent.received(host, 3), 1);
            agent.host(host, Check.BUSY);
        }
    }
}
