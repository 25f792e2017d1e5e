import java.util.function.Consumer;

/**
 * What an agent has, part by part, as it shows itself in answers. To look at a part may spend the agent, so each part
 * is looked at in an agent of its own. Of the messages, those with the numbers 1, 2 and 3 are looked at.
 */
enum Part {
    SIZES(Part::lookAtSizes),
    MESSAGES(Part::lookAtMessages),
    GAPS_AND_STARTS(Part::waitForMessages),
    REPORTS(Part::deliverMessages),
    CHANGES(talk -> talk.ask("count", 3)),
    DURABLE(Part::lookAfterCrash),
    CLOCK(talk -> talk.ask("count", 4)),
    LAST_NUMBER(talk -> talk.ask("count", 5)),
    TRANSACTION(Part::endTransaction),
    DELIVERIES(Part::lookAtDeliveries),
    GOALS(Part::followAliases),
    NUMBER_OF_GOALS(talk -> askEach(talk, "unalias", 0, 7)),
    ORDER_OF_ROUTES(Part::followRoutes),
    NUMBER_OF_ROUTES(talk -> askEach(talk, "unroute", 1, 7)),
    HOSTS(Part::lookAtHosts);

    private static final int LOOKED_AT = 3;
    private static final int[] RECIPIENTS = {0, 6, 8, 9, 10, 16, 17, 20, 21, 22, 24, 25, 33, 60};
    private static final int[] FINALS = {0, 4, 6, 8, 9, 40, 41, 42, 43, 44, 50, 51, 56, 57, 58, 59, 60, 61};

    private final Consumer<Talk> look;

    Part(Consumer<Talk> look) {
        this.look = look;
    }

    void lookAt(Talk talk) {
        look.accept(talk);
    }

    private static void askEach(Talk talk, String method, int first, int last) {
        for (int argument = first; argument <= last; argument++) {
            talk.ask(method, argument);
        }
    }

    private static void lookAtSizes(Talk talk) {
        askEach(talk, "count", 0, 2);
        askEach(talk, "message", 0, 6);
    }

    private static void lookAtMessages(Talk talk) {
        for (int number = 1; number <= LOOKED_AT; number++) {
            talk.ask("sender", number);
            talk.ask("due", number);
            for (int address : RECIPIENTS) {
                talk.ask("status", number, address);
            }
        }
    }

    /** Gaps show themselves in the due times, starts in the time at which a message is given up. */
    private static void waitForMessages(Talk talk) {
        for (int time = 30; time <= 150; time += 5) {
            talk.askAside("tick", time);
            for (int number = 1; number <= LOOKED_AT; number++) {
                talk.see("at " + time + " due(" + number + ")", talk.askAside("due", number));
                talk.see("at " + time + " sender(" + number + ")", talk.askAside("sender", number));
            }
        }
    }

    /** Whether a message is a report shows itself when it is delivered. */
    private static void deliverMessages(Talk talk) {
        setHostsUp(talk);
        for (int time = 100; time <= 102; time++) {
            talk.askAside("tick", time);
            for (int what = 0; what < 2; what++) {
                talk.ask("received", 8, what);
                talk.ask("received", 9, what);
                talk.ask("received", 60, what);
            }
        }
    }

    private static void lookAfterCrash(Talk talk) {
        talk.askAside("crash");
        lookAtSizes(talk);
        lookAtMessages(talk);
        waitForMessages(talk);
    }

    private static void endTransaction(Talk talk) {
        talk.ask("count", 6);
        emptyQueue(talk);
        int number = talk.askAside("data", 0);
        talk.see("accepted", number > 0 ? 1 : number);
        talk.see("sender", talk.askAside("sender", number));
        for (int address : RECIPIENTS) {
            talk.see("status of " + address, talk.askAside("status", number, address));
        }
    }

    private static void lookAtDeliveries(Talk talk) {
        for (int what = 0; what < 3; what++) {
            for (int address = 0; address < 64; address++) {
                talk.ask("received", address, what);
            }
        }
        for (int host = 0; host < 8; host++) {
            talk.ask("received", host, 3);
        }
    }

    private static void followAliases(Talk talk) {
        emptyQueue(talk);
        for (int local = 0; local < 8; local++) {
            talk.askAside("from", -1);
            talk.ask("to", local);
            int number = talk.askAside("data", 0);
            for (int address : FINALS) {
                talk.see("status of " + address, talk.askAside("status", number, address));
            }
            talk.askAside("drop", number);
        }
    }

    /** The hosts of some domains in their order, each made BUSY after it has carried. */
    private static void followRoutes(Talk talk) {
        emptyQueue(talk);
        for (int domain : new int[] {1, 2, 6, 7}) {
            setHostsUp(talk);
            int carrier = 0;
            for (int i = 0; i < 3 && carrier >= 0; i++) {
                carrier = carrierTo(talk, domain);
                talk.see("carrier to domain " + domain, carrier);
                talk.askAside("host", carrier, Check.BUSY);
            }
        }
    }

    /** The host that carries a new message to the domain, or -1. */
    private static int carrierTo(Talk talk, int domain) {
        int[] before = new int[8];
        for (int host = 0; host < 8; host++) {
            before[host] = talk.askAside("received", host, 3);
        }
        talk.askAside("from", -1);
        talk.askAside("to", domain * 8);
        int number = talk.askAside("data", 0);
        talk.askAside("tick", talk.askAside("count", 4));
        talk.askAside("drop", number);
        int carrier = -1;
        for (int host = 0; host < 8; host++) {
            carrier = talk.askAside("received", host, 3) > before[host] ? host : carrier;
        }
        return carrier;
    }

    private static void lookAtHosts(Talk talk) {
        for (int host = 0; host < 8; host++) {
            talk.ask("host", host, Check.UP);
        }
    }

    private static void setHostsUp(Talk talk) {
        for (int host = 0; host < 8; host++) {
            talk.askAside("host", host, Check.UP);
        }
    }

    private static void emptyQueue(Talk talk) {
        int first = talk.askAside("message", 0);
        while (first != 0) {
            talk.askAside("drop", first);
            first = talk.askAside("message", 0);
        }
    }
}
