/** Terms: hosts, routes, and the order in which routes are tried. */
public final class TermsHostsAndRoutesTest {
    public static void main(String[] args) {
        hostsAreUpAtFirst();
        noRoutesAtFirst();
        leastPreferenceFirst();
        endsOfThePreferences();
        neighboursOfThePreferences();
        equalOnesAsEntered();
        equalOnesAmongOthers();
        entersAnewBehindEqualOnes();
        oneHostForAllDomains();
        Check.end();
    }

    /** "UP at first" */
    private static void hostsAreUpAtFirst() {
        for (int host = 0; host < 8; host++) {
            MailAgent agent = Check.agent();
            agent.route(1, host, 0);
            Check.send(agent, -1, 0, 8);
            Check.due("tick(0), host " + host, agent.tick(0), 1);
            Check.due("received(" + host + ", 3)", agent.received(host, 3), 1);
            Check.due("host(" + host + ", 0)", agent.host(host, Check.UP), Check.UP);
        }
    }

    /** "No routes at first." */
    private static void noRoutesAtFirst() {
        MailAgent agent = Check.agent();
        for (int domain = 1; domain < 8; domain++) {
            Check.due("unroute(" + domain + ")", agent.unroute(domain), 0);
            Check.send(agent, -1, 0, domain * 8);
            Check.due("tick(0)", agent.tick(0), 0);
            Check.due("count(0)", agent.count(0), 0);
        }
    }

    /** "they are tried from the least preference up", in whatever order they were entered. */
    private static void leastPreferenceFirst() {
        int[][] orders = {{1, 2, 3}, {1, 3, 2}, {2, 1, 3}, {2, 3, 1}, {3, 1, 2}, {3, 2, 1}};
        for (int[] order : orders) {
            MailAgent agent = Check.agent();
            for (int place : order) {
                agent.route(1, 8 - 2 * place, place * 10);
            }
            Check.carriersAre(agent, 1, 6, 4, 2);
        }
    }

    private static void endsOfThePreferences() {
        MailAgent agent = Check.agent();
        agent.route(7, 0, 99);
        agent.route(7, 1, 0);
        Check.carriersAre(agent, 7, 1, 0);
        MailAgent other = Check.agent();
        other.route(7, 1, 0);
        other.route(7, 0, 99);
        Check.carriersAre(other, 7, 1, 0);
    }

    private static void neighboursOfThePreferences() {
        for (int preference : new int[] {0, 1, 49, 97, 98}) {
            MailAgent agent = Check.agent();
            agent.route(2, 3, preference + 1);
            agent.route(2, 5, preference);
            Check.carriersAre(agent, 2, 5, 3);
        }
    }

    /** "equal ones in the order in which they were entered" */
    private static void equalOnesAsEntered() {
        int[][] orders = {{1, 2, 3}, {1, 3, 2}, {2, 1, 3}, {2, 3, 1}, {3, 1, 2}, {3, 2, 1}, {6, 7, 0}};
        for (int[] order : orders) {
            for (int preference : new int[] {0, 7, 99}) {
                MailAgent agent = Check.agent();
                for (int host : order) {
                    agent.route(1, host, preference);
                }
                Check.carriersAre(agent, 1, order);
            }
        }
    }

    /** "equal ones in the order in which they were entered", with a third one entered before, between and behind. */
    private static void equalOnesAmongOthers() {
        // Hosts 6 and 5 have the preference 7; host 4 has a lesser one and then a greater one.
        int[][] orders = {{4, 6, 5}, {6, 4, 5}, {6, 5, 4}};
        for (int[] order : orders) {
            MailAgent lesser = Check.agent();
            MailAgent greater = Check.agent();
            for (int host : order) {
                lesser.route(1, host, host == 4 ? 6 : 7);
                greater.route(1, host, host == 4 ? 8 : 7);
            }
            Check.carriersAre(lesser, 1, 4, 6, 5);
            Check.carriersAre(greater, 1, 6, 5, 4);
        }
    }

    private static void entersAnewBehindEqualOnes() {
        MailAgent agent = Check.agent();
        agent.route(1, 1, 5);
        agent.unroute(1);
        agent.route(1, 2, 5);
        agent.route(1, 1, 5);
        Check.carriersAre(agent, 1, 2, 1);
    }

    private static void oneHostForAllDomains() {
        MailAgent agent = Check.agent();
        for (int domain = 1; domain < 8; domain++) {
            Check.due("route(" + domain + ", 7, 99)", agent.route(domain, 7, 99), 1);
            Check.send(agent, -1, 0, domain * 8 + 7);
            Check.due("tick(0)", agent.tick(0), 1);
        }
        Check.due("received(7, 3)", agent.received(7, 3), 7);
    }
}
