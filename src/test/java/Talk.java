import java.util.ArrayList;
import java.util.List;

/** A new agent and what was seen of it, so that two of them can be compared. */
final class Talk {
    private static final int MOST_CALLS = 512;

    private final MailAgent agent = Check.agent();
    private final List<String> seen = new ArrayList<>();
    private int calls = 0;

    /** Asks, and takes the call with its answer into what is compared. */
    int ask(String method, int... arguments) {
        return ask(Calls.row(method, arguments));
    }

    int ask(int[] row) {
        int answer = askAside(row);
        see(Calls.told(row), answer);
        return answer;
    }

    /** Asks without taking the call into what is compared. */
    int askAside(String method, int... arguments) {
        return askAside(Calls.row(method, arguments));
    }

    int askAside(int[] row) {
        calls++;
        return Calls.ask(agent, row);
    }

    /** Takes something into what is compared. */
    void see(String what, int answer) {
        seen.add(what + " answered " + answer);
    }

    /** What the document promises ends with the 512th call. */
    boolean isWithinPromisedCalls() {
        return calls <= MOST_CALLS;
    }

    /** The first thing that was not seen alike in both, or an empty text. */
    String firstDifference(Talk other) {
        for (int i = 0; i < Math.min(seen.size(), other.seen.size()); i++) {
            if (!seen.get(i).equals(other.seen.get(i))) {
                return seen.get(i) + ", and in the other " + other.seen.get(i);
            }
        }
        return seen.size() == other.seen.size() ? "" : "more was seen of one than of the other";
    }
}
