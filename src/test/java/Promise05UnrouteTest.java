/** Promise 5: unroute. */
public final class Promise05UnrouteTest {
    public static void main(String[] args) {
        takesAllRoutes();
        refusesWhatIsOutOfRange();
        Check.end();
    }

    private static void takesAllRoutes() {
        MailAgent agent = Check.agent();
        agent.route(1, 1, 1);
        agent.route(1, 2, 1);
        agent.route(7, 1, 1);
        Check.due("unroute(1)", agent.unroute(1), 2);
        Check.due("unroute(1) again", agent.unroute(1), 0);
        int number = Check.send(agent, 5, 0, 8);
        Check.due("tick(0)", agent.tick(0), 0);
        Check.due("the report's recipient", agent.status(number, 5), Check.WAITING);
        Check.due("unroute(7)", agent.unroute(7), 1);
        Check.due("unroute(2)", agent.unroute(2), 0);
    }

    private static void refusesWhatIsOutOfRange() {
        MailAgent agent = Check.agent();
        for (int domain : new int[] {0, -1, 8, Integer.MIN_VALUE, Integer.MAX_VALUE}) {
            Check.due("unroute(" + domain + ")", agent.unroute(domain), MailAgent.SYNTAX);
        }
    }
}
