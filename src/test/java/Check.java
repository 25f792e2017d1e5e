/** What the tests share: it prints every answer that is not the one that is due, and ends the test. */
final class Check {
    static final int UP = 0;
    static final int BUSY = 1;
    static final int GONE = 2;
    static final int WAITING = 1;
    static final int DELIVERED = 2;
    static final int FAILED = 3;

    private static int asked = 0;
    private static int wrong = 0;

    private Check() {
    }

    static void due(String call, int got, int want) {
        asked++;
        if (got != want) {
            wrong++;
            System.out.println(call + " answered " + got + ", due is " + want);
        }
    }

    static void isTrue(String what, boolean holds) {
        asked++;
        if (!holds) {
            wrong++;
            System.out.println("does not hold: " + what);
        }
    }

    static int wrongAnswers() {
        return wrong;
    }

    /** A test that asked nothing has failed too. */
    static void end() {
        if (wrong != 0 || asked == 0) {
            System.exit(1);
        }
    }

    static MailAgent agent() {
        return new MailAgent(5, 20, 60);
    }

    /** An agent whose domains 1 .. 7 have one route each, to the host of the same number, which is UP. */
    static MailAgent routedAgent() {
        MailAgent agent = agent();
        for (int domain = 1; domain < 8; domain++) {
            due("route to host " + domain, agent.route(domain, domain, 0), 1);
        }
        return agent;
    }

    /** An agent whose domain 1 has one route, to host 1, which is BUSY; the other domains have none. */
    static MailAgent busyAgent() {
        MailAgent agent = agent();
        due("route to a busy host", agent.route(1, 1, 1), 1);
        due("host(1, 1)", agent.host(1, BUSY), UP);
        return agent;
    }

    /** Sends one message and answers its number; no address may have goals. */
    static int send(MailAgent agent, int sender, int size, int... addresses) {
        due("from(" + sender + ")", agent.from(sender), 0);
        for (int address : addresses) {
            due("to(" + address + ")", agent.to(address), 1);
        }
        return agent.data(size);
    }

    /** Makes the changes that are not durable exactly so many, 23 at most, by hurrying a message. */
    static void makeChanges(MailAgent agent, int number, int changes) {
        agent.sync();
        for (int i = 0; i < changes; i++) {
            due("hurry(" + number + ")", agent.hurry(number), 1);
        }
        due("count(3)", agent.count(3), changes);
    }
}
