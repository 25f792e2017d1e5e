import java.util.ArrayList;
import java.util.List;
import java.util.function.Consumer;

/**
 * Terms: "A call refused because of a number out of range answers SYNTAX, and that is tested before all else; a refused
 * call changes nothing." Two agents are brought into the same state; one of them is told a refused call too; then both
 * must answer alike, whatever is asked.
 */
public final class TermsRefusedCallsTest {
    private static final List<Consumer<Talk>> PROBES = List.of(TermsRefusedCallsTest::lookAtQueue,
        TermsRefusedCallsTest::lookAtDeliveries, TermsRefusedCallsTest::lookAfterCrash,
        TermsRefusedCallsTest::followFuture, TermsRefusedCallsTest::lookAtAliases,
        TermsRefusedCallsTest::lookAtRoutes, TermsRefusedCallsTest::takeAllAway,
        TermsRefusedCallsTest::endTransaction);

    public static void main(String[] args) {
        for (Consumer<Talk> state : List.<Consumer<Talk>>of(TermsRefusedCallsTest::newAgent,
            TermsRefusedCallsTest::openTransaction, TermsRefusedCallsTest::busyQueue,
            TermsRefusedCallsTest::fullQueue, TermsRefusedCallsTest::fullTransaction)) {
            for (int[] row : rowsOutOfRange(state)) {
                isRefused(state, row, MailAgent.SYNTAX);
            }
        }
        refusedInANewAgent();
        refusedInAnOpenTransaction();
        refusedInABusyQueue();
        refusedInAFullQueue();
        refusedInAFullTransaction();
        Check.end();
    }

    private static void refusedInANewAgent() {
        Consumer<Talk> state = TermsRefusedCallsTest::newAgent;
        for (int address : new int[] {0, 7, 8, 63}) {
            isRefused(state, Calls.row("to", address), MailAgent.SEQUENCE);
        }
        isRefused(state, Calls.row("data", 0), MailAgent.SEQUENCE);
        isRefused(state, Calls.row("data", 40), MailAgent.SEQUENCE);
        areUnknown(state, 0, 1, -1, Integer.MIN_VALUE, Integer.MAX_VALUE);
    }

    private static void refusedInAnOpenTransaction() {
        Consumer<Talk> state = TermsRefusedCallsTest::openTransaction;
        isRefused(state, Calls.row("data", 0), MailAgent.SEQUENCE);
        isRefused(state, Calls.row("data", 40), MailAgent.SEQUENCE);
        isRefused(state, Calls.row("to", 6), MailAgent.UNKNOWN);
        isRefused(state, Calls.row("to", 1), MailAgent.FULL);
        areUnknown(state, 0, 1);
    }

    private static void refusedInABusyQueue() {
        Consumer<Talk> state = TermsRefusedCallsTest::busyQueue;
        isRefused(state, Calls.row("alias", 1, 9), MailAgent.FULL);
        isRefused(state, Calls.row("alias", 2, 44), MailAgent.FULL);
        isRefused(state, Calls.row("alias", 2, 40), MailAgent.FULL);
        isRefused(state, Calls.row("route", 1, 5, 0), MailAgent.FULL);
        isRefused(state, Calls.row("route", 1, 2, 0), MailAgent.FULL);
        isRefused(state, Calls.row("route", 2, 4, 99), MailAgent.FULL);
        isRefused(state, Calls.row("to", 3), MailAgent.FULL);
        isRefused(state, Calls.row("to", 2), MailAgent.FULL);
        isRefused(state, Calls.row("to", 6), MailAgent.UNKNOWN);
        isRefused(state, Calls.row("data", 38), MailAgent.FULL);
        isRefused(state, Calls.row("data", 40), MailAgent.FULL);
        areUnknown(state, 0, -1, 3, 4, Integer.MIN_VALUE, Integer.MAX_VALUE);
    }

    private static void refusedInAFullQueue() {
        Consumer<Talk> state = TermsRefusedCallsTest::fullQueue;
        isRefused(state, Calls.row("data", 0), MailAgent.FULL);
        isRefused(state, Calls.row("data", 40), MailAgent.FULL);
        areUnknown(state, 0, 7);
    }

    private static void refusedInAFullTransaction() {
        Consumer<Talk> state = TermsRefusedCallsTest::fullTransaction;
        isRefused(state, Calls.row("to", 14), MailAgent.FULL);
        isRefused(state, Calls.row("to", 9), MailAgent.FULL);
        isRefused(state, Calls.row("to", 6), MailAgent.UNKNOWN);
        isRefused(state, Calls.row("data", 14), MailAgent.FULL);
        areUnknown(state, 0, 2);
    }

    private static void areUnknown(Consumer<Talk> state, int... numbers) {
        for (int number : numbers) {
            isRefused(state, Calls.row("drop", number), MailAgent.UNKNOWN);
            isRefused(state, Calls.row("hurry", number), MailAgent.UNKNOWN);
        }
    }

    private static void isRefused(Consumer<Talk> state, int[] row, int answer) {
        for (Consumer<Talk> probe : PROBES) {
            Talk plain = new Talk();
            Talk refused = new Talk();
            state.accept(plain);
            state.accept(refused);
            Check.due(Calls.told(row), refused.askAside(row), answer);
            probe.accept(plain);
            probe.accept(refused);
            String difference = plain.firstDifference(refused);
            Check.isTrue(Calls.told(row) + " changes nothing, but then " + difference, difference.isEmpty());
            Check.isTrue("no more calls than are promised", refused.isWithinPromisedCalls());
        }
    }

    /** Each parameter that has a range is put outside it, while the others would make a change. */
    private static List<int[]> rowsOutOfRange(Consumer<Talk> state) {
        List<int[]> rows = new ArrayList<>();
        putOutside(rows, Calls.row("alias", 0, 9), 0, 7, 0, 63);
        putOutside(rows, Calls.row("unalias", 1), 0, 7);
        putOutside(rows, Calls.row("route", 3, 5, 50), 1, 7, 0, 7, 0, 99);
        putOutside(rows, Calls.row("unroute", 1), 1, 7);
        putOutside(rows, Calls.row("host", 1, Check.GONE), 0, 7, 0, 2);
        putOutside(rows, Calls.row("from", 60), -1, 63);
        putOutside(rows, Calls.row("to", 30), 0, 63);
        putOutside(rows, Calls.row("data", 1), 0, 40);
        putOutside(rows, Calls.row("count", 1), 0, 6);
        putOutside(rows, Calls.row("received", 1, 0), 0, 63, 0, 3);
        putOutside(rows, Calls.row("received", 1, 3), 0, 7, 0, 3);
        Talk talk = new Talk();
        state.accept(talk);
        int clock = talk.ask("count", 4);
        for (int time : new int[] {clock - 1, -1, 1000001, Integer.MIN_VALUE, Integer.MAX_VALUE}) {
            rows.add(Calls.row("tick", time));
        }
        return rows;
    }

    /** The ranges are given as pairs of a least and a greatest value, a pair for each parameter. */
    private static void putOutside(List<int[]> rows, int[] usual, int... ranges) {
        int[] allOutside = usual.clone();
        for (int i = 0; i < ranges.length / 2; i++) {
            for (int outside : Check.outside(ranges[2 * i], ranges[2 * i + 1])) {
                int[] row = usual.clone();
                row[1 + i] = outside;
                rows.add(row);
            }
            allOutside[1 + i] = ranges[2 * i + 1] + 1;
        }
        rows.add(allOutside);
    }

    private static void newAgent(Talk talk) {
        Check.due("count(4)", talk.ask("count", 4), 0);
    }

    private static void openTransaction(Talk talk) {
        enterAliases(talk);
        talk.ask("alias", 1, 2);
        talk.ask("from", 5);
    }

    /** 1 has two goals, 2 has four, 3 has two, 6 is its own. */
    private static void enterAliases(Talk talk) {
        talk.ask("alias", 1, 8);
        talk.ask("alias", 1, 9);
        for (int goal = 40; goal < 44; goal++) {
            talk.ask("alias", 2, goal);
        }
        talk.ask("alias", 3, 50);
        talk.ask("alias", 3, 51);
        talk.ask("alias", 6, 6);
    }

    /** Domain 1 has three routes by busy hosts, 2 has one by a host that is up, 7 has one by a host that is gone. */
    private static void enterRoutes(Talk talk) {
        talk.ask("route", 1, 1, 10);
        talk.ask("route", 1, 2, 10);
        talk.ask("route", 1, 3, 5);
        talk.ask("route", 2, 4, 7);
        talk.ask("route", 7, 0, 99);
        for (int host = 1; host <= 3; host++) {
            talk.ask("host", host, Check.BUSY);
        }
        talk.ask("host", 0, Check.GONE);
    }

    /** Two messages put off, a third that has left; 5 changes are not durable; a transaction with 3 recipients. */
    private static void busyQueue(Talk talk) {
        enterAliases(talk);
        enterRoutes(talk);
        talk.ask("tick", 10);
        send(talk, 4, 10, 8, 16, 5);
        send(talk, 63, 3, 9);
        send(talk, 7, 0, 24);
        talk.ask("tick", 12);
        talk.ask("sync");
        talk.ask("tick", 17);
        talk.ask("hurry", 2);
        talk.ask("from", 33);
        talk.ask("to", 20);
        talk.ask("to", 21);
        talk.ask("to", 22);
        Check.due("count(0)", talk.ask("count", 0), 2);
        Check.due("count(1)", talk.ask("count", 1), 19);
        Check.due("count(3)", talk.ask("count", 3), 5);
        Check.due("count(6)", talk.ask("count", 6), 3);
    }

    /** Six messages, 23 changes that are not durable, a transaction with one recipient. */
    private static void fullQueue(Talk talk) {
        enterRoutes(talk);
        for (int number = 1; number <= 6; number++) {
            send(talk, 20 + number, number, 8 + number);
        }
        talk.ask("tick", 30);
        for (int i = 0; i < 17; i++) {
            talk.ask("hurry", 3);
        }
        talk.ask("from", 33);
        talk.ask("to", 20);
        Check.due("count(0)", talk.ask("count", 0), 6);
        Check.due("count(3)", talk.ask("count", 3), 23);
    }

    /** A transaction with four recipients, beside one message; the costs are 42. */
    private static void fullTransaction(Talk talk) {
        enterAliases(talk);
        send(talk, 5, 40, 14);
        talk.ask("from", -1);
        for (int address = 10; address < 14; address++) {
            talk.ask("to", address);
        }
        Check.due("count(6)", talk.ask("count", 6), 4);
        Check.due("count(1)", talk.ask("count", 1), 42);
    }

    private static int send(Talk talk, int sender, int size, int... addresses) {
        talk.ask("from", sender);
        for (int address : addresses) {
            talk.ask("to", address);
        }
        return talk.ask("data", size);
    }

    private static void lookAtQueue(Talk talk) {
        for (int what = 0; what <= 6; what++) {
            talk.ask("count", what);
        }
        for (int k = 0; k < 6; k++) {
            int number = talk.ask("message", k);
            talk.ask("sender", number);
            talk.ask("due", number);
            for (int address = 0; address < 30; address++) {
                talk.ask("status", number, address);
            }
        }
    }

    private static void lookAtDeliveries(Talk talk) {
        for (int address = 0; address < 64; address++) {
            for (int what = 0; what < 3; what++) {
                talk.ask("received", address, what);
            }
        }
        for (int host = 0; host < 8; host++) {
            talk.ask("received", host, 3);
        }
    }

    private static void lookAfterCrash(Talk talk) {
        talk.ask("crash");
        lookAtQueue(talk);
    }

    /** Gaps and starts show themselves in what becomes of the messages. */
    private static void followFuture(Talk talk) {
        int clock = talk.ask("count", 4);
        for (int i = 0; i < 20; i++) {
            talk.ask("tick", clock + 5 * i);
            talk.ask("count", 0);
            talk.ask("count", 2);
            talk.ask("count", 3);
            for (int number = 1; number <= 6; number++) {
                talk.ask("due", number);
            }
        }
    }

    private static void lookAtAliases(Talk talk) {
        emptyQueue(talk);
        for (int local = 0; local < 8; local++) {
            talk.ask("from", -1);
            talk.ask("to", local);
            int number = talk.ask("data", 0);
            for (int address : new int[] {0, 1, 2, 8, 9, 40, 41, 42, 43, 44, 50, 51, 63}) {
                talk.ask("status", number, address);
            }
            talk.ask("drop", number);
        }
    }

    /** The order of the hosts of each domain, each made BUSY after it has carried. */
    private static void lookAtRoutes(Talk talk) {
        emptyQueue(talk);
        for (int domain : new int[] {1, 2, 3, 7}) {
            int[] carried = new int[8];
            for (int host = 0; host < 8; host++) {
                talk.ask("host", host, Check.UP);
                carried[host] = talk.ask("received", host, 3);
            }
            for (int i = 0; i < 4; i++) {
                carryOnce(talk, domain, carried);
            }
        }
    }

    private static void carryOnce(Talk talk, int domain, int[] carried) {
        int number = send(talk, -1, 0, domain * 8);
        talk.ask("tick", talk.ask("count", 4));
        talk.ask("drop", number);
        for (int host = 0; host < 8; host++) {
            int before = carried[host];
            carried[host] = talk.ask("received", host, 3);
            if (carried[host] > before) {
                talk.ask("host", host, Check.BUSY);
            }
        }
    }

    private static void emptyQueue(Talk talk) {
        for (int number = 1; number <= 6; number++) {
            talk.ask("drop", number);
        }
    }

    private static void takeAllAway(Talk talk) {
        for (int i = 0; i < 8; i++) {
            talk.ask("unalias", i);
            talk.ask("unroute", i);
            talk.ask("host", i, Check.UP);
        }
        talk.ask("sync");
    }

    private static void endTransaction(Talk talk) {
        talk.ask("drop", 1);
        talk.ask("to", 20);
        talk.ask("to", 23);
        int number = talk.ask("data", 0);
        talk.ask("sender", number);
        for (int address = 0; address < 64; address++) {
            talk.ask("status", number, address);
        }
        talk.ask("count", 1);
        talk.ask("crash");
        talk.ask("data", 0);
    }
}
