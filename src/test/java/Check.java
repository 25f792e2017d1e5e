import java.util.function.IntUnaryOperator;

/** What the tests share: it prints every answer that is not the one that is due, and ends the test. */
final class Check {
    static final int UP = 0;
    static final int BUSY = 1;
    static final int GONE = 2;
    static final int WAITING = 1;
    static final int DELIVERED = 2;
    static final int FAILED = 3;

    private static int asked = 0;
    private static int wrong = 0;

    private Check() {
    }

    static void due(String call, int got, int want) {
        asked++;
        if (got != want) {
            wrong++;
            System.out.println(call + " answered " + got + ", due is " + want);
        }
    }

    static void isTrue(String what, boolean holds) {
        asked++;
        if (!holds) {
            wrong++;
            System.out.println("does not hold: " + what);
        }
    }

    /** Both ends of a range and what lies beside them inside answer want; what lies outside answers SYNTAX. */
    static void range(String call, int least, int most, int want, IntUnaryOperator ask) {
        for (int inside : new int[] {least, least + 1, most - 1, most}) {
            due(call + ", n = " + inside, ask.applyAsInt(inside), want);
        }
        for (int outside : outside(least, most)) {
            due(call + ", n = " + outside, ask.applyAsInt(outside), MailAgent.SYNTAX);
        }
    }

    /** The first values outside a range of less than 256, the ends of int, and what a byte or a short would wrap. */
    static int[] outside(int least, int most) {
        return new int[] {least - 1, most + 1, Integer.MIN_VALUE, Integer.MAX_VALUE,
            least + 256, most - 256, least + 65536, most - 65536};
    }

    static int wrongAnswers() {
        return wrong;
    }

    /** A test that asked nothing has failed too. */
    static void end() {
        if (wrong != 0 || asked == 0) {
            System.exit(1);
        }
    }

    static MailAgent agent() {
        return new MailAgent(5, 20, 60);
    }

    /** An agent whose domains 1 .. 7 have one route each, to the host of the same number, which is UP. */
    static MailAgent routedAgent() {
        MailAgent agent = agent();
        for (int domain = 1; domain < 8; domain++) {
            due("route to host " + domain, agent.route(domain, domain, 0), 1);
        }
        return agent;
    }

    /** An agent whose domain 1 has one route, to host 1, which is BUSY; the other domains have none. */
    static MailAgent busyAgent() {
        MailAgent agent = agent();
        due("route to a busy host", agent.route(1, 1, 1), 1);
        due("host(1, 1)", agent.host(1, BUSY), UP);
        return agent;
    }

    /** Sends one message and answers its number; no address may have goals. */
    static int send(MailAgent agent, int sender, int size, int... addresses) {
        due("from(" + sender + ")", agent.from(sender), 0);
        for (int address : addresses) {
            due("to(" + address + ")", agent.to(address), 1);
        }
        return agent.data(size);
    }

    /** What a message to the address is for: exactly these, at most 4; the message is dropped again. */
    static void finalsAre(MailAgent agent, int address, int... finals) {
        due("from(-1)", agent.from(-1), 0);
        due("to(" + address + ")", agent.to(address), finals.length);
        int number = agent.data(0);
        for (int recipient : finals) {
            due("status of " + recipient, agent.status(number, recipient), WAITING);
        }
        due("drop(" + number + ")", agent.drop(number), 1);
    }

    /** The hosts that carry to a domain, one after another, each one made BUSY after it has carried; then none does. */
    static void carriersAre(MailAgent agent, int domain, int... hosts) {
        int clock = agent.count(4);
        for (int host : hosts) {
            int before = agent.received(host, 3);
            int number = send(agent, -1, 0, domain * 8);
            due("tick, carried by " + host, agent.tick(clock), 1);
            due("status", agent.status(number, domain * 8), 0);
            due("received(" + host + ", 3)", agent.received(host, 3), before + 1);
            due("host(" + host + ", 1)", agent.host(host, BUSY), UP);
        }
        int number = send(agent, -1, 0, domain * 8);
        due("tick, carried by none", agent.tick(clock), 0);
        due("status", agent.status(number, domain * 8), WAITING);
        due("drop(" + number + ")", agent.drop(number), 1);
    }

    /** Makes the changes that are not durable exactly so many, 23 at most, by hurrying a message. */
    static void makeChanges(MailAgent agent, int number, int changes) {
        agent.sync();
        for (int i = 0; i < changes; i++) {
            due("hurry(" + number + ")", agent.hurry(number), 1);
        }
        due("count(3)", agent.count(3), changes);
    }
}
