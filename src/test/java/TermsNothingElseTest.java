import java.util.EnumSet;
import java.util.List;
import java.util.function.Consumer;

/**
 * Not promised: "Nothing is promised beyond the answers and state changes described above", and Terms: "What is
 * delivered (received, carried) stays so whatever happens; aliases, routes, hosts and the clock are never lost." Two
 * agents are brought into the same state; one of them is told a call too; then every part but those that the call's
 * promise tells of must be alike in both.
 */
public final class TermsNothingElseTest {
    private static final List<Consumer<Talk>> STATES =
        List.of(TermsNothingElseTest::usedAgent, TermsNothingElseTest::fullAgent);

    public static void main(String[] args) {
        allIsStillThere();
        for (Consumer<Talk> state : STATES) {
            callsAboutTheWorld(state);
            callsAboutTheTransaction(state);
            callsAboutTheQueue(state);
            callsThatOnlyAnswer(state);
        }
        dataChangesTheQueue();
        Check.end();
    }

    /** Domains 4 and 5 and the hosts 0 and 5 have nothing to do with the messages that are looked at. */
    private static void callsAboutTheWorld(Consumer<Talk> state) {
        changesOnly(state, "alias", EnumSet.of(Part.GOALS, Part.NUMBER_OF_GOALS), 6, 44);
        changesOnly(state, "unalias", EnumSet.of(Part.GOALS, Part.NUMBER_OF_GOALS), 7);
        changesOnly(state, "route", EnumSet.of(Part.NUMBER_OF_ROUTES), 4, 1, 5);
        changesOnly(state, "unroute", EnumSet.of(Part.NUMBER_OF_ROUTES), 5);
        changesOnly(state, "host", EnumSet.of(Part.HOSTS), 5, Check.BUSY);
        changesOnly(state, "host", EnumSet.of(Part.HOSTS), 0, Check.UP);
    }

    private static void callsAboutTheTransaction(Consumer<Talk> state) {
        changesOnly(state, "from", EnumSet.of(Part.TRANSACTION), 1);
        changesOnly(state, "to", EnumSet.of(Part.TRANSACTION), 22);
    }

    private static void callsAboutTheQueue(Consumer<Talk> state) {
        // Only message 7 is due.
        changesOnly(state, "tick", EnumSet.of(Part.SIZES, Part.CHANGES, Part.DELIVERIES), 27);
        changesOnly(state, "tick", EnumSet.of(Part.SIZES, Part.CHANGES, Part.DELIVERIES, Part.CLOCK), 28);
        changesOnly(state, "sync", EnumSet.of(Part.CHANGES, Part.DURABLE));
        changesOnly(state, "crash", EnumSet.of(Part.SIZES, Part.MESSAGES, Part.GAPS_AND_STARTS, Part.REPORTS,
            Part.CHANGES, Part.TRANSACTION));
        changesOnly(state, "drop", EnumSet.of(Part.SIZES, Part.CHANGES), 6);
        changesOnly(state, "drop", EnumSet.of(Part.SIZES, Part.CHANGES), 7);
        changesOnly(state, "hurry", EnumSet.of(Part.CHANGES), 6);
        changesOnly(state, "hurry", EnumSet.of(Part.CHANGES), 7);
    }

    private static void dataChangesTheQueue() {
        changesOnly(TermsNothingElseTest::usedAgent, "data", EnumSet.of(Part.SIZES, Part.CHANGES, Part.DURABLE,
            Part.LAST_NUMBER, Part.TRANSACTION), 1);
    }

    private static void callsThatOnlyAnswer(Consumer<Talk> state) {
        EnumSet<Part> nothing = EnumSet.noneOf(Part.class);
        for (int i = -1; i <= 7; i++) {
            changesOnly(state, "message", nothing, i);
            changesOnly(state, "sender", nothing, i);
            changesOnly(state, "due", nothing, i);
            changesOnly(state, "status", nothing, i, 8);
        }
        for (int what = 0; what <= 6; what++) {
            changesOnly(state, "count", nothing, what);
        }
        for (int what = 0; what <= 3; what++) {
            changesOnly(state, "received", nothing, 0, what);
            changesOnly(state, "received", nothing, 7, what);
        }
        changesOnly(state, "received", nothing, 60, 1);
    }

    private static void changesOnly(Consumer<Talk> state, String method, EnumSet<Part> told, int... arguments) {
        int[] row = Calls.row(method, arguments);
        for (Part part : EnumSet.complementOf(told)) {
            Talk plain = new Talk();
            Talk asked = new Talk();
            state.accept(plain);
            state.accept(asked);
            Check.isTrue(Calls.told(row) + " is not refused", asked.askAside(row) >= -2);
            part.lookAt(plain);
            part.lookAt(asked);
            String difference = plain.firstDifference(asked);
            Check.isTrue(Calls.told(row) + " leaves " + part + " as it is, but " + difference, difference.isEmpty());
            Check.isTrue("no more calls than are promised", asked.isWithinPromisedCalls());
        }
    }

    /** After all kinds of calls, what was entered, delivered and accepted before is there as it was. */
    private static void allIsStillThere() {
        for (Consumer<Talk> state : STATES) {
            goalsAreStillThere(afterAllCalls(state));
            routesAndHostsAreStillThere(afterAllCalls(state));
            deliveriesAreStillThere(afterAllCalls(state));
            queueIsStillThere(afterAllCalls(state));
            startsAreStillThere(afterAllCalls(state));
            gapsAndReportsAreStillThere(afterAllCalls(state));
            transactionIsStillThere(afterAllCalls(state));
            durableQueueIsStillThere(afterAllCalls(state));
        }
    }

    private static Talk afterAllCalls(Consumer<Talk> state) {
        Talk talk = new Talk();
        state.accept(talk);
        int[][] rows = {Calls.row("alias", 0, 1), Calls.row("unalias", 0), Calls.row("route", 3, 3, 3),
            Calls.row("unroute", 3), Calls.row("host", 5, Check.UP), Calls.row("count", 0), Calls.row("message", 0),
            Calls.row("status", 1, 8), Calls.row("sender", 1), Calls.row("due", 1), Calls.row("received", 60, 0)};
        for (int[] row : rows) {
            Check.isTrue(Calls.told(row) + " is not refused", talk.ask(row) >= 0);
        }
        return talk;
    }

    private static void goalsAreStillThere(Talk talk) {
        int[] goals = {0, 2, 4, 1, 1, 4, 0, 2};
        for (int local = 0; local < 8; local++) {
            Check.due("goals of " + local, talk.ask("unalias", local), goals[local]);
        }
    }

    private static void routesAndHostsAreStillThere(Talk talk) {
        int[] routes = {0, 3, 1, 0, 0, 1, 3, 1};
        int[] states = {Check.GONE, Check.BUSY, Check.BUSY, Check.BUSY, Check.UP, Check.UP, Check.GONE, Check.UP};
        for (int host = 0; host < 8; host++) {
            Check.due("state of host " + host, talk.ask("host", host, Check.UP), states[host]);
        }
        for (int number = 1; number <= 8; number++) {
            talk.ask("drop", number);
        }
        for (int host : new int[] {6, 7, 5}) {
            int carried = talk.ask("received", host, 3);
            send(talk, -1, 0, 48);
            talk.ask("tick", 27);
            Check.due("carried to domain 6 by " + host, talk.ask("received", host, 3), carried + 1);
            talk.ask("host", host, Check.BUSY);
        }
        for (int domain = 1; domain < 8; domain++) {
            Check.due("routes of domain " + domain, talk.ask("unroute", domain), routes[domain]);
        }
    }

    private static void deliveriesAreStillThere(Talk talk) {
        Check.due("letters to 0", talk.ask("received", 0, 0), 1);
        Check.due("letters to 16", talk.ask("received", 16, 0), 1);
        Check.due("letters to 60", talk.ask("received", 60, 0), 1);
        Check.due("reports to 60", talk.ask("received", 60, 1), 1);
        Check.due("the last for 0", talk.ask("received", 0, 2), 1);
        Check.due("the last for 60", talk.ask("received", 60, 2), 5);
        Check.due("carried by 4", talk.ask("received", 4, 3), 1);
        Check.due("carried by 7", talk.ask("received", 7, 3), 2);
        Check.due("the clock", talk.ask("count", 4), 27);
        Check.due("the last number", talk.ask("count", 5), 8);
    }

    private static void queueIsStillThere(Talk talk) {
        boolean full = talk.ask("count", 0) == 6;
        Check.due("costs", talk.ask("count", 1), full ? 28 : 19);
        Check.due("waiting", talk.ask("count", 2), full ? 9 : 5);
        Check.due("changes", talk.ask("count", 3), full ? 7 : 6);
        int[] numbers = {1, 2, 3, 6, 7, full ? 8 : 0};
        int[] senders = {60, 24, -1, -1, 63, full ? 33 : -2};
        int[] dues = {37, 37, 37, 32, 27, full ? 32 : -1};
        for (int k = 0; k < 6; k++) {
            Check.due("message(" + k + ")", talk.ask("message", k), numbers[k]);
            Check.due("its sender", talk.ask("sender", numbers[k]), senders[k]);
            Check.due("its due time", talk.ask("due", numbers[k]), dues[k]);
        }
        statesOfMessageOne(talk);
        Check.due("the report's recipient", talk.ask("status", 3, 8), Check.WAITING);
    }

    private static void statesOfMessageOne(Talk talk) {
        Check.due("a delivered recipient", talk.ask("status", 1, 0), Check.DELIVERED);
        Check.due("a failed recipient", talk.ask("status", 1, 24), Check.FAILED);
        Check.due("a waiting recipient", talk.ask("status", 1, 8), Check.WAITING);
    }

    /** The start of message 1 is 10, that of the report is 12; giveUp is 60. */
    private static void startsAreStillThere(Talk talk) {
        talk.ask("tick", 69);
        Check.due("message 1 waits", talk.ask("sender", 1), 60);
        talk.ask("hurry", 1);
        talk.ask("tick", 70);
        Check.due("message 1 is given up", talk.ask("sender", 1), -1);
        talk.ask("hurry", 3);
        talk.ask("tick", 71);
        Check.due("the report waits", talk.ask("status", 3, 8), Check.WAITING);
        talk.ask("hurry", 3);
        talk.ask("tick", 72);
        Check.due("the report is given up", talk.ask("status", 3, 8), 0);
    }

    private static void gapsAndReportsAreStillThere(Talk talk) {
        talk.ask("tick", 37);
        Check.due("the third gap", talk.ask("due", 1), 57);
        Check.due("the report's third gap", talk.ask("due", 3), 57);
        talk.ask("host", 3, Check.UP);
        talk.ask("tick", 57);
        Check.due("letters to 8", talk.ask("received", 8, 0), 1);
        Check.due("reports to 8", talk.ask("received", 8, 1), 1);
        Check.due("letters to 9", talk.ask("received", 9, 0), 1);
    }

    private static void transactionIsStillThere(Talk talk) {
        Check.due("its recipients", talk.ask("count", 6), 2);
        talk.ask("drop", 7);
        Check.due("the next number", talk.ask("data", 0), 9);
        Check.due("its sender", talk.ask("sender", 9), 33);
        Check.due("its first recipient", talk.ask("status", 9, 20), Check.WAITING);
        Check.due("its second recipient", talk.ask("status", 9, 21), Check.WAITING);
    }

    private static void durableQueueIsStillThere(Talk talk) {
        boolean full = talk.ask("count", 0) == 6;
        Check.due("crash()", talk.ask("crash"), full ? 7 : 6);
        Check.due("messages", talk.ask("count", 0), full ? 6 : 5);
        Check.due("costs", talk.ask("count", 1), full ? 28 : 19);
        int[] numbers = {1, 2, 3, 6, 7};
        int[] dues = {17, 17, 17, 12, 12};
        for (int k = 0; k < 5; k++) {
            Check.due("due(" + numbers[k] + ")", talk.ask("due", numbers[k]), dues[k]);
        }
        statesOfMessageOne(talk);
        goalsAreStillThere(talk);
        deliveriesAreStillThere(talk);
        routesAndHostsAreStillThere(talk);
    }

    /** Five messages; the one that was accepted last has been dropped. */
    private static void usedAgent(Talk talk) {
        makeWorld(talk);
        sendMessages(talk);
        talk.askAside("drop", 8);
        goOn(talk);
    }

    private static void fullAgent(Talk talk) {
        makeWorld(talk);
        sendMessages(talk);
        goOn(talk);
    }

    /** The hosts of domain 1 are busy; 2 and 7 are served, 5 is not, 6 has three routes, 3 and 4 have none. */
    private static void makeWorld(Talk talk) {
        int[][] aliases = {{1, 8}, {1, 9}, {2, 40}, {2, 41}, {2, 42}, {2, 43}, {3, 50}, {4, 4},
            {5, 56}, {5, 57}, {5, 58}, {5, 59}, {7, 60}, {7, 61}};
        for (int[] alias : aliases) {
            talk.askAside("alias", alias);
        }
        int[][] routes = {{1, 1, 10}, {1, 2, 10}, {1, 3, 5}, {2, 4, 7}, {5, 0, 99}, {6, 5, 3}, {6, 7, 2}, {6, 6, 1},
            {7, 7, 0}};
        for (int[] route : routes) {
            talk.askAside("route", route);
        }
        int[][] hosts = {{1, Check.BUSY}, {2, Check.BUSY}, {3, Check.BUSY}, {0, Check.GONE}, {6, Check.GONE}};
        for (int[] host : hosts) {
            talk.askAside("host", host);
        }
    }

    /** Of the first five messages, 1 and 2 wait, 3 is a report that waits, 4 and 5 have left; 6, 7 and 8 are new. */
    private static void sendMessages(Talk talk) {
        talk.askAside("tick", 10);
        send(talk, 60, 3, 0, 16, 24, 8);
        send(talk, 24, 2, 9);
        send(talk, 8, 5, 25);
        send(talk, 6, 0, 60);
        send(talk, 60, 0, 26);
        talk.askAside("tick", 12);
        talk.askAside("tick", 12);
        send(talk, -1, 1, 10);
        send(talk, 63, 0, 17);
        send(talk, 33, 4, 12, 13, 14, 15);
    }

    /** All messages are put off, then 7 alone is made due and can be carried; a transaction is open. */
    private static void goOn(Talk talk) {
        talk.askAside("sync");
        talk.askAside("host", 4, Check.BUSY);
        talk.askAside("tick", 27);
        talk.askAside("host", 4, Check.UP);
        talk.askAside("hurry", 7);
        talk.askAside("from", 33);
        talk.askAside("to", 20);
        talk.askAside("to", 21);
    }

    private static void send(Talk talk, int sender, int size, int... addresses) {
        talk.askAside("from", sender);
        for (int address : addresses) {
            talk.askAside("to", address);
        }
        talk.askAside("data", size);
    }
}
