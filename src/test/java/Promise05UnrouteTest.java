/** Promise 5: unroute. */
public final class Promise05UnrouteTest {
    public static void main(String[] args) {
        answersHowManyItHad();
        takesAllRoutes();
        takesThemFromThisDomainAlone();
        domainIsOneToSeven();
        refusedChangesNothing();
        Check.end();
    }

    /** "answers how many it had": from none to the most there can be. */
    private static void answersHowManyItHad() {
        for (int domain = 1; domain < 8; domain++) {
            for (int routes = 0; routes <= 3; routes++) {
                MailAgent agent = Check.agent();
                for (int host = 0; host < routes; host++) {
                    agent.route(domain, host, 1);
                }
                Check.due("unroute(" + domain + ") of " + routes, agent.unroute(domain), routes);
                Check.due("unroute(" + domain + ") again", agent.unroute(domain), 0);
            }
        }
    }

    /** "Takes all routes from a domain" */
    private static void takesAllRoutes() {
        MailAgent agent = Check.agent();
        agent.route(1, 1, 1);
        agent.route(1, 2, 1);
        agent.unroute(1);
        int number = Check.send(agent, 5, 0, 8);
        Check.due("tick(0)", agent.tick(0), 0);
        Check.due("the report's recipient", agent.status(number, 5), Check.WAITING);
        agent.drop(number);
        Check.due("a host that it had", agent.route(1, 2, 9), 1);
        Check.carriersAre(agent, 1, 2);
    }

    private static void takesThemFromThisDomainAlone() {
        MailAgent agent = Check.routedAgent();
        agent.unroute(4);
        for (int domain = 1; domain < 8; domain++) {
            Check.due("unroute(" + domain + ")", agent.unroute(domain), domain == 4 ? 0 : 1);
        }
    }

    /** "a domain (1 .. 7)" */
    private static void domainIsOneToSeven() {
        Check.range("unroute(n)", 1, 7, 0, domain -> Check.agent().unroute(domain));
    }

    private static void refusedChangesNothing() {
        MailAgent agent = Check.routedAgent();
        for (int wrong : Check.outside(1, 7)) {
            agent.unroute(wrong);
        }
        for (int domain = 1; domain < 8; domain++) {
            Check.due("unroute(" + domain + ")", agent.unroute(domain), 1);
        }
    }
}
