/** Promise 4: route. */
public final class Promise04RouteTest {
    public static void main(String[] args) {
        answersHowManyItHasThen();
        refusesAFourthRoute();
        refusesAHostThatItHas();
        keepsDomainsApart();
        domainIsOneToSeven();
        hostIsZeroToSeven();
        preferenceIsZeroToNinetyNine();
        testsTheRangeBeforeTheRoom();
        refusedForRangeChangesNothing();
        refusedForRoomChangesNothing();
        outlivesCrash();
        Check.end();
    }

    /** "answers how many it has then" */
    private static void answersHowManyItHasThen() {
        MailAgent agent = Check.agent();
        Check.due("route(7, 0, 0)", agent.route(7, 0, 0), 1);
        Check.due("route(7, 7, 99)", agent.route(7, 7, 99), 2);
        Check.due("route(7, 3, 99)", agent.route(7, 3, 99), 3);
        Check.due("unroute(7)", agent.unroute(7), 3);
    }

    /** "It has 3 routes [...]: FULL." */
    private static void refusesAFourthRoute() {
        MailAgent agent = agentWithThreeRoutes();
        for (int host : new int[] {0, 4, 7}) {
            Check.due("a fourth route, to " + host, agent.route(1, host, 50), MailAgent.FULL);
        }
        Check.due("one of the three again", agent.route(1, 2, 50), MailAgent.FULL);
        Check.due("unroute(1)", agent.unroute(1), 3);
        Check.due("there is room again", agent.route(1, 4, 50), 1);
    }

    /** "It has [...] one to this host: FULL." */
    private static void refusesAHostThatItHas() {
        for (int host = 0; host < 8; host++) {
            MailAgent agent = Check.agent();
            Check.due("route(1, " + host + ", 5)", agent.route(1, host, 5), 1);
            for (int preference : new int[] {0, 5, 99}) {
                Check.due("the same host", agent.route(1, host, preference), MailAgent.FULL);
            }
            Check.due("another host", agent.route(1, (host + 1) % 8, 5), 2);
            Check.due("the first host", agent.route(1, host, 6), MailAgent.FULL);
            Check.due("the second host", agent.route(1, (host + 1) % 8, 6), MailAgent.FULL);
            Check.due("unroute(1)", agent.unroute(1), 2);
            Check.due("the first host anew", agent.route(1, host, 5), 1);
        }
    }

    private static void keepsDomainsApart() {
        MailAgent agent = Check.agent();
        for (int domain = 1; domain < 8; domain++) {
            Check.due("route(" + domain + ", 0, 1)", agent.route(domain, 0, 1), 1);
        }
        Check.due("unroute(1)", agent.unroute(1), 1);
        Check.due("unroute(2)", agent.unroute(2), 1);
    }

    /** "the domain (1 .. 7)": the agent's own domain has no routes. */
    private static void domainIsOneToSeven() {
        Check.range("route(n, 1, 1)", 1, 7, 1, domain -> Check.agent().route(domain, 1, 1));
    }

    /** "the host (0 .. 7)" */
    private static void hostIsZeroToSeven() {
        Check.range("route(1, n, 1)", 0, 7, 1, host -> Check.agent().route(1, host, 1));
        Check.range("route(7, n, 99)", 0, 7, 1, host -> Check.agent().route(7, host, 99));
    }

    /** "the preference (0 .. 99)" */
    private static void preferenceIsZeroToNinetyNine() {
        Check.range("route(1, 0, n)", 0, 99, 1, preference -> Check.agent().route(1, 0, preference));
        Check.range("route(7, 7, n)", 0, 99, 1, preference -> Check.agent().route(7, 7, preference));
    }

    /** "and that is tested before all else" */
    private static void testsTheRangeBeforeTheRoom() {
        MailAgent agent = agentWithThreeRoutes();
        Check.due("route(1, 8, 1)", agent.route(1, 8, 1), MailAgent.SYNTAX);
        Check.due("route(1, -1, 1)", agent.route(1, -1, 1), MailAgent.SYNTAX);
        Check.due("route(1, 2, 100)", agent.route(1, 2, 100), MailAgent.SYNTAX);
        Check.due("route(1, 2, -1)", agent.route(1, 2, -1), MailAgent.SYNTAX);
        Check.due("route(0, 8, 100)", agent.route(0, 8, 100), MailAgent.SYNTAX);
    }

    private static void refusedForRangeChangesNothing() {
        MailAgent agent = Check.agent();
        agent.route(1, 3, 50);
        for (int wrong : Check.outside(1, 7)) {
            agent.route(wrong, 1, 1);
        }
        for (int wrong : Check.outside(0, 7)) {
            agent.route(1, wrong, 1);
        }
        for (int wrong : Check.outside(0, 99)) {
            agent.route(1, 1, wrong);
            agent.route(1, 3, wrong);
        }
        Check.carriersAre(agent, 1, 3);
        Check.due("unroute(1)", agent.unroute(1), 1);
        for (int domain = 1; domain < 8; domain++) {
            Check.due("unroute(" + domain + ")", agent.unroute(domain), 0);
        }
    }

    /** The route that is there keeps its preference and its place. */
    private static void refusedForRoomChangesNothing() {
        MailAgent agent = agentWithThreeRoutes();
        agent.route(1, 3, 0);
        agent.route(1, 1, 99);
        agent.route(1, 4, 0);
        Check.carriersAre(agent, 1, 1, 2, 3);
        MailAgent other = Check.agent();
        other.route(1, 5, 50);
        other.route(1, 5, 1);
        other.route(1, 6, 40);
        Check.carriersAre(other, 1, 6, 5);
    }

    /** "routes [...] are never lost" */
    private static void outlivesCrash() {
        MailAgent agent = agentWithThreeRoutes();
        agent.crash();
        Check.carriersAre(agent, 1, 1, 2, 3);
        Check.due("unroute(1)", agent.unroute(1), 3);
    }

    /** Domain 1 by host 1, then 2, then 3. */
    private static MailAgent agentWithThreeRoutes() {
        MailAgent agent = Check.agent();
        for (int host = 1; host <= 3; host++) {
            Check.due("route " + host, agent.route(1, host, 10 * host), host);
        }
        return agent;
    }
}
