import java.util.ArrayList;
import java.util.List;

/** A new agent and all that it has answered, so that two of them can be compared. */
final class Talk {
    private static final int MOST_CALLS = 512;

    private final MailAgent agent = Check.agent();
    private final List<String> calls = new ArrayList<>();
    private final List<Integer> answers = new ArrayList<>();

    int ask(String method, int... arguments) {
        return ask(Calls.row(method, arguments));
    }

    int ask(int[] row) {
        int answer = Calls.ask(agent, row);
        calls.add(Calls.told(row));
        answers.add(answer);
        return answer;
    }

    /** Asks without taking the call into what is compared. */
    int askAside(int[] row) {
        return Calls.ask(agent, row);
    }

    /** What the document promises ends with the 512th call. */
    boolean isWithinPromisedCalls() {
        return calls.size() < MOST_CALLS;
    }

    /** The first call that the two have answered in different ways, or an empty text. */
    String firstDifference(Talk other) {
        for (int i = 0; i < Math.min(calls.size(), other.calls.size()); i++) {
            if (!calls.get(i).equals(other.calls.get(i)) || !answers.get(i).equals(other.answers.get(i))) {
                return calls.get(i) + " answered " + answers.get(i) + " and " + other.answers.get(i);
            }
        }
        return calls.size() == other.calls.size() ? "" : "one was asked more than the other";
    }
}
