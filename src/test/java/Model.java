import java.util.ArrayList;
import java.util.Arrays;
import java.util.Comparator;
import java.util.LinkedHashMap;
import java.util.List;
import java.util.Map;
import java.util.TreeMap;
import java.util.TreeSet;

/**
 * A second reading of the document, with the Java library and without thrift, against which the program is compared.
 * It is told a call as a row of Calls.
 */
final class Model {
    private record Route(int host, int preference) {
    }

    private record Delivery(int address, int number, boolean report, int host) {
    }

    private static final class Letter {
        int sender;
        int size;
        int start;
        int due;
        int gap;
        boolean report;
        Map<Integer, Integer> states = new LinkedHashMap<>();

        Letter copy() {
            Letter copy = new Letter();
            copy.sender = sender;
            copy.size = size;
            copy.start = start;
            copy.due = due;
            copy.gap = gap;
            copy.report = report;
            copy.states = new LinkedHashMap<>(states);
            return copy;
        }
    }

    private final int minGap;
    private final int maxGap;
    private final int giveUp;
    private final List<TreeSet<Integer>> goals = new ArrayList<>();
    private final List<List<Route>> routes = new ArrayList<>();
    private final int[] hostStates = new int[8];
    private final List<Delivery> deliveries = new ArrayList<>();
    private TreeMap<Integer, Letter> queue = new TreeMap<>();
    /** The queue as it was before the first change that is not durable; null if all are durable. */
    private TreeMap<Integer, Letter> before = null;
    private int changes = 0;
    private int clock = 0;
    private int accepted = 0;
    private int sender = -1;
    /** Null if no transaction is open. */
    private List<Integer> recipients = null;

    Model(int minGap, int maxGap, int giveUp) {
        this.minGap = minGap < 1 ? 1 : minGap > 60 ? 60 : minGap;
        this.maxGap = maxGap < this.minGap ? this.minGap : maxGap > 600 ? 600 : maxGap;
        this.giveUp = giveUp < this.maxGap ? this.maxGap : giveUp > 6000 ? 6000 : giveUp;
        for (int i = 0; i < 8; i++) {
            goals.add(new TreeSet<>());
            routes.add(new ArrayList<>());
        }
    }

    int call(int[] row) {
        int answer = answer(Calls.METHODS[row[0]], Arrays.copyOfRange(row, 1, row.length));
        if (changes >= 24) {
            allDurable();
        }
        return answer;
    }

    private int answer(String method, int[] a) {
        switch (method) {
            case "alias":
                return alias(a[0], a[1]);
            case "unalias":
                return out(a[0], 0, 7) ? MailAgent.SYNTAX : emptied(goals.get(a[0]));
            case "route":
                return route(a[0], a[1], a[2]);
            case "unroute":
                return out(a[0], 1, 7) ? MailAgent.SYNTAX : emptied(routes.get(a[0]));
            case "host":
                return host(a[0], a[1]);
            case "from":
                return from(a[0]);
            case "to":
                return to(a[0]);
            case "data":
                return data(a[0]);
            case "tick":
                return tick(a[0]);
            case "sync":
                return allDurable();
            case "crash":
                return crash();
            case "drop":
                return drop(a[0]);
            case "hurry":
                return hurry(a[0]);
            case "count":
                return count(a[0]);
            case "message":
                return a[0] < 0 || a[0] >= queue.size() ? 0 : new ArrayList<>(queue.keySet()).get(a[0]);
            case "status":
                return queue.containsKey(a[0]) ? queue.get(a[0]).states.getOrDefault(a[1], 0) : 0;
            case "sender":
                return queue.containsKey(a[0]) ? queue.get(a[0]).sender : -2;
            case "due":
                return queue.containsKey(a[0]) ? queue.get(a[0]).due : -1;
            default:
                return received(a[0], a[1]);
        }
    }

    private static boolean out(int value, int least, int most) {
        return value < least || value > most;
    }

    private static int emptied(java.util.Collection<?> list) {
        int had = list.size();
        list.clear();
        return had;
    }

    private int alias(int local, int goal) {
        if (out(local, 0, 7) || out(goal, 0, 63)) {
            return MailAgent.SYNTAX;
        }
        TreeSet<Integer> own = goals.get(local);
        if (own.size() == 4 || own.contains(goal)) {
            return MailAgent.FULL;
        }
        own.add(goal);
        return own.size();
    }

    private int route(int domain, int host, int preference) {
        if (out(domain, 1, 7) || out(host, 0, 7) || out(preference, 0, 99)) {
            return MailAgent.SYNTAX;
        }
        List<Route> own = routes.get(domain);
        if (own.size() == 3 || own.stream().anyMatch(route -> route.host() == host)) {
            return MailAgent.FULL;
        }
        own.add(new Route(host, preference));
        return own.size();
    }

    private int host(int host, int state) {
        if (out(host, 0, 7) || out(state, 0, 2)) {
            return MailAgent.SYNTAX;
        }
        int had = hostStates[host];
        hostStates[host] = state;
        return had;
    }

    private int from(int newSender) {
        if (out(newSender, -1, 63)) {
            return MailAgent.SYNTAX;
        }
        sender = newSender;
        recipients = new ArrayList<>();
        return 0;
    }

    private int to(int address) {
        if (out(address, 0, 63)) {
            return MailAgent.SYNTAX;
        }
        if (recipients == null) {
            return MailAgent.SEQUENCE;
        }
        TreeSet<Integer> finals = new TreeSet<>();
        reach(address, finals);
        finals.removeIf(reached -> reached < 8 && !goals.get(reached).isEmpty());
        if (finals.isEmpty()) {
            return MailAgent.UNKNOWN;
        }
        finals.removeAll(recipients);
        if (recipients.size() + finals.size() > 4) {
            return MailAgent.FULL;
        }
        recipients.addAll(finals);
        return finals.size();
    }

    private void reach(int address, TreeSet<Integer> reached) {
        if (reached.add(address) && address < 8) {
            for (int goal : goals.get(address)) {
                reach(goal, reached);
            }
        }
    }

    private int data(int size) {
        if (out(size, 0, 40)) {
            return MailAgent.SYNTAX;
        }
        if (recipients == null || recipients.isEmpty()) {
            return MailAgent.SEQUENCE;
        }
        if (queue.size() == 6 || count(1) + size + recipients.size() + 1 > 60) {
            return MailAgent.FULL;
        }
        Letter letter = new Letter();
        letter.sender = sender;
        letter.size = size;
        begin(letter, recipients);
        accepted++;
        queue.put(accepted, letter);
        recipients = null;
        allDurable();
        return accepted;
    }

    private void begin(Letter letter, List<Integer> addresses) {
        letter.states.clear();
        for (int address : addresses) {
            letter.states.put(address, 1);
        }
        letter.start = clock;
        letter.due = clock;
        letter.gap = minGap;
    }

    private int tick(int time) {
        if (out(time, clock, 1000000)) {
            return MailAgent.SYNTAX;
        }
        clock = time;
        int deliveriesBefore = deliveries.size();
        for (int number : new ArrayList<>(queue.keySet())) {
            if (queue.get(number).due <= clock) {
                attempt(number, queue.get(number));
            }
        }
        return deliveries.size() - deliveriesBefore;
    }

    private void attempt(int number, Letter letter) {
        for (int address : new ArrayList<>(letter.states.keySet())) {
            if (letter.states.get(address) == 1) {
                attempt(number, letter, address);
            }
        }
        for (int address : new ArrayList<>(letter.states.keySet())) {
            if (letter.states.get(address) == 1 && clock - letter.start >= giveUp) {
                change();
                letter.states.put(address, 3);
            }
        }
        change();
        if (letter.states.containsValue(1)) {
            letter.due = clock + letter.gap;
            letter.gap = letter.gap * 2 > maxGap ? maxGap : letter.gap * 2;
        } else if (letter.states.containsValue(3) && letter.sender != -1) {
            begin(letter, List.of(letter.sender));
            letter.sender = -1;
            letter.size = 0;
            letter.report = true;
        } else {
            queue.remove(number);
        }
    }

    private void attempt(int number, Letter letter, int address) {
        if (address < 8) {
            deliver(number, letter, address, -1);
            return;
        }
        List<Route> ways = new ArrayList<>(routes.get(address / 8));
        ways.sort(Comparator.comparingInt(Route::preference));
        for (Route way : ways) {
            if (hostStates[way.host()] == 0) {
                deliver(number, letter, address, way.host());
                return;
            }
            if (hostStates[way.host()] == 2) {
                change();
                letter.states.put(address, 3);
                return;
            }
        }
        if (ways.isEmpty()) {
            change();
            letter.states.put(address, 3);
        }
    }

    private void deliver(int number, Letter letter, int address, int host) {
        change();
        letter.states.put(address, 2);
        deliveries.add(new Delivery(address, number, letter.report, host));
    }

    /** Must be called before the change is made. */
    private void change() {
        if (before == null) {
            before = new TreeMap<>();
            queue.forEach((number, letter) -> before.put(number, letter.copy()));
        }
        changes++;
    }

    private int allDurable() {
        int were = changes;
        changes = 0;
        before = null;
        return were;
    }

    private int crash() {
        if (before != null) {
            queue = before;
        }
        recipients = null;
        return allDurable();
    }

    private int drop(int number) {
        if (!queue.containsKey(number)) {
            return MailAgent.UNKNOWN;
        }
        change();
        queue.remove(number);
        return 1;
    }

    private int hurry(int number) {
        if (!queue.containsKey(number)) {
            return MailAgent.UNKNOWN;
        }
        change();
        queue.get(number).due = clock;
        return 1;
    }

    private int count(int what) {
        switch (what) {
            case 0:
                return queue.size();
            case 1:
                return queue.values().stream().mapToInt(letter -> letter.size + letter.states.size() + 1).sum();
            case 2:
                return (int) queue.values().stream().flatMap(letter -> letter.states.values().stream())
                    .filter(state -> state == 1).count();
            case 3:
                return changes;
            case 4:
                return clock;
            case 5:
                return accepted;
            case 6:
                return recipients == null ? -1 : recipients.size();
            default:
                return MailAgent.SYNTAX;
        }
    }

    private int received(int address, int what) {
        if (out(what, 0, 3) || out(address, 0, what == 3 ? 7 : 63)) {
            return MailAgent.SYNTAX;
        }
        int answer = 0;
        for (Delivery delivery : deliveries) {
            if (what == 3) {
                answer += delivery.host() == address ? 1 : 0;
            } else if (delivery.address() == address) {
                boolean counts = delivery.report() == (what == 1);
                answer = what == 2 ? delivery.number() : answer + (counts ? 1 : 0);
            }
        }
        return answer;
    }
}
