/**
 * A mail agent: it takes messages in, follows aliases, carries them to mail hosts by routes, tries again with
 * growing gaps, reports failures to the sender, and keeps its queue through crashes.
 *
 * All rows are made by the constructor and used again, so that no later call makes an object.
 */
public final class MailAgent {
    public static final int SYNTAX = -501;
    public static final int SEQUENCE = -503;
    public static final int UNKNOWN = -550;
    public static final int FULL = -452;

    private static final int ADDRESSES = 64;
    private static final int DOMAINS = 8;
    private static final int DOMAIN_SIZE = 8;
    private static final int OWN_DOMAIN = 0;
    private static final int LOCALS = 8;
    private static final int MOST_GOALS = 4;
    private static final int HOSTS = 8;
    private static final int MOST_ROUTES = 3;
    private static final int MOST_PREFERENCE = 99;
    private static final int MOST_RECIPIENTS = 4;
    private static final int MOST_MESSAGES = 6;
    private static final int MOST_SIZE = 40;
    private static final int MOST_COST = 60;
    private static final int LAST_TIME = 1000000;
    private static final int CHANGES_KEPT_BACK = 24;
    private static final int NOBODY = -1;

    private static final int UP = 0;
    private static final int GONE = 2;

    private static final int WAITING = 1;
    private static final int DELIVERED = 2;
    private static final int FAILED = 3;

    private final int minGap;
    private final int maxGap;
    private final int giveUp;
    private final Aliases aliases;
    private final Routes[] routes;
    private final int[] hostStates;
    private final Transaction transaction;
    private final Queue queue;
    private final Queue durable;
    private final Deliveries deliveries;
    private int clock;
    private int lastNumber;
    private int changes;

    public MailAgent(int minGap, int maxGap, int giveUp) {
        this.minGap = clamp(minGap, 1, 60);
        this.maxGap = clamp(maxGap, this.minGap, 600);
        this.giveUp = clamp(giveUp, this.maxGap, 6000);
        aliases = new Aliases();
        routes = new Routes[DOMAINS];
        for (int domain = 0; domain < DOMAINS; domain++) {
            routes[domain] = new Routes();
        }
        hostStates = new int[HOSTS];
        transaction = new Transaction();
        queue = new Queue();
        durable = new Queue();
        deliveries = new Deliveries();
        clock = 0;
        lastNumber = 0;
        changes = 0;
    }

    public int alias(int local, int goal) {
        if (!isBelow(local, LOCALS) || !isBelow(goal, ADDRESSES)) {
            return SYNTAX;
        }
        if (!aliases.hasRoomFor(local, goal)) {
            return FULL;
        }
        return aliases.add(local, goal);
    }

    public int unalias(int local) {
        if (!isBelow(local, LOCALS)) {
            return SYNTAX;
        }
        return aliases.clear(local);
    }

    public int route(int domain, int host, int preference) {
        if (!isForeign(domain) || !isBelow(host, HOSTS) || !isBelow(preference, MOST_PREFERENCE + 1)) {
            return SYNTAX;
        }
        if (!routes[domain].hasRoomFor(host)) {
            return FULL;
        }
        return routes[domain].add(host, preference);
    }

    public int unroute(int domain) {
        if (!isForeign(domain)) {
            return SYNTAX;
        }
        return routes[domain].clear();
    }

    public int host(int host, int state) {
        if (!isBelow(host, HOSTS) || !isBelow(state, GONE + 1)) {
            return SYNTAX;
        }
        int before = hostStates[host];
        hostStates[host] = state;
        return before;
    }

    public int from(int sender) {
        if (sender != NOBODY && !isBelow(sender, ADDRESSES)) {
            return SYNTAX;
        }
        transaction.start(sender);
        return 0;
    }

    public int to(int address) {
        if (!isBelow(address, ADDRESSES)) {
            return SYNTAX;
        }
        if (!transaction.open) {
            return SEQUENCE;
        }
        long finals = aliases.finalsOf(address);
        if (finals == 0L) {
            return UNKNOWN;
        }
        long added = finals & ~transaction.recipients.asBits();
        int addedCount = Long.bitCount(added);
        if (transaction.recipients.size + addedCount > MOST_RECIPIENTS) {
            return FULL;
        }
        transaction.recipients.addRising(added);
        return addedCount;
    }

    public int data(int size) {
        if (!isBelow(size, MOST_SIZE + 1)) {
            return SYNTAX;
        }
        if (!transaction.open || transaction.recipients.size == 0) {
            return SEQUENCE;
        }
        int cost = costOf(size, transaction.recipients.size);
        if (queue.size >= MOST_MESSAGES || queue.costs() + cost > MOST_COST) {
            return FULL;
        }
        lastNumber++;
        Message accepted = queue.addSpare();
        accepted.accept(lastNumber, size, transaction);
        accepted.schedule(clock, minGap);
        transaction.open = false;
        makeDurable();
        return lastNumber;
    }

    public int tick(int time) {
        if (time < clock || time > LAST_TIME) {
            return SYNTAX;
        }
        clock = time;
        int deliveredCount = 0;
        int index = 0;
        for (int turn = 0; turn < MOST_MESSAGES && index < queue.size; turn++) {
            Message next = queue.messages[index];
            boolean stays = true;
            if (next.due <= clock) {
                deliveredCount += tryRecipients(next);
                failOverdue(next);
                stays = settle(next);
            }
            // Behind a message that leaves, the next one moves up to the same index.
            if (stays) {
                index++;
            } else {
                queue.removeAt(index);
            }
        }
        keepChangesFew();
        return deliveredCount;
    }

    public int sync() {
        int made = changes;
        makeDurable();
        return made;
    }

    public int crash() {
        int undone = changes;
        queue.copyFrom(durable);
        changes = 0;
        transaction.open = false;
        return undone;
    }

    public int drop(int number) {
        int index = queue.indexOf(number);
        if (index < 0) {
            return UNKNOWN;
        }
        queue.removeAt(index);
        changes++;
        keepChangesFew();
        return 1;
    }

    public int hurry(int number) {
        int index = queue.indexOf(number);
        if (index < 0) {
            return UNKNOWN;
        }
        queue.messages[index].due = clock;
        // The document calls this putting off, and every putting off is a change.
        changes++;
        keepChangesFew();
        return 1;
    }

    public int count(int what) {
        switch (what) {
            case 0:
                return queue.size;
            case 1:
                return queue.costs();
            case 2:
                return queue.waitingRecipients();
            case 3:
                return changes;
            case 4:
                return clock;
            case 5:
                return lastNumber;
            case 6:
                return transaction.open ? transaction.recipients.size : -1;
            default:
                return SYNTAX;
        }
    }

    public int message(int k) {
        return isBelow(k, queue.size) ? queue.messages[k].number : 0;
    }

    public int status(int number, int address) {
        int index = queue.indexOf(number);
        return index < 0 ? 0 : queue.messages[index].recipients.stateOf(address);
    }

    public int sender(int number) {
        int index = queue.indexOf(number);
        return index < 0 ? -2 : queue.messages[index].sender;
    }

    public int due(int number) {
        int index = queue.indexOf(number);
        return index < 0 ? -1 : queue.messages[index].due;
    }

    public int received(int address, int what) {
        if (!isBelow(address, what == 3 ? HOSTS : ADDRESSES)) {
            return SYNTAX;
        }
        switch (what) {
            case 0:
                return deliveries.letters[address];
            case 1:
                return deliveries.reports[address];
            case 2:
                return deliveries.lastNumbers[address];
            case 3:
                return deliveries.carried[address];
            default:
                return SYNTAX;
        }
    }

    private static int clamp(int value, int least, int most) {
        return Math.max(least, Math.min(value, most));
    }

    private static boolean isBelow(int value, int bound) {
        return value >= 0 && value < bound;
    }

    private static boolean isForeign(int domain) {
        return domain != OWN_DOMAIN && isBelow(domain, DOMAINS);
    }

    private static int costOf(int size, int recipientCount) {
        return size + recipientCount + 1;
    }

    /** The first step of an attempt; answers how many recipients were delivered. */
    private int tryRecipients(Message tried) {
        Recipients recipients = tried.recipients;
        int deliveredCount = 0;
        for (int i = 0; i < recipients.size; i++) {
            if (recipients.states[i] == WAITING) {
                int address = recipients.addresses[i];
                int state = carry(address);
                recipients.states[i] = state;
                if (state != WAITING) {
                    changes++;
                }
                if (state == DELIVERED) {
                    deliveries.note(address, tried);
                    deliveredCount++;
                }
            }
        }
        return deliveredCount;
    }

    /** Tries to bring something to an address; answers the state that its recipient has then. */
    private int carry(int address) {
        int domain = address / DOMAIN_SIZE;
        if (domain == OWN_DOMAIN) {
            return DELIVERED;
        }
        Routes ways = routes[domain];
        if (ways.size == 0) {
            return FAILED;
        }
        for (int i = 0; i < ways.size; i++) {
            int carrier = ways.hosts[i];
            if (hostStates[carrier] == UP) {
                deliveries.carried[carrier]++;
                return DELIVERED;
            }
            if (hostStates[carrier] == GONE) {
                return FAILED;
            }
        }
        return WAITING;
    }

    /** The second step of an attempt: what waits too long fails. */
    private void failOverdue(Message tried) {
        if (clock >= tried.start + giveUp) {
            changes += tried.recipients.failWaiting();
        }
    }

    /** The last step of an attempt, which is always one change; answers if the message stays in the queue. */
    private boolean settle(Message tried) {
        changes++;
        if (tried.recipients.inState(WAITING) > 0) {
            tried.putOff(clock, maxGap);
            return true;
        }
        if (tried.recipients.inState(FAILED) > 0 && tried.sender != NOBODY) {
            tried.becomeReport();
            tried.schedule(clock, minGap);
            return true;
        }
        return false;
    }

    private void keepChangesFew() {
        if (changes >= CHANGES_KEPT_BACK) {
            makeDurable();
        }
    }

    private void makeDurable() {
        durable.copyFrom(queue);
        changes = 0;
    }

    /** The goals of the local addresses; a set of addresses is held as the bits of a long. */
    private static final class Aliases {
        private final long[] goals = new long[LOCALS];

        boolean hasRoomFor(int local, int goal) {
            return Long.bitCount(goals[local]) < MOST_GOALS && (goals[local] & (1L << goal)) == 0L;
        }

        int add(int local, int goal) {
            goals[local] |= 1L << goal;
            return Long.bitCount(goals[local]);
        }

        int clear(int local) {
            int had = Long.bitCount(goals[local]);
            goals[local] = 0L;
            return had;
        }

        long finalsOf(int address) {
            long finals = reachedFrom(address);
            for (int local = 0; local < LOCALS; local++) {
                if (goals[local] != 0L) {
                    finals &= ~(1L << local);
                }
            }
            return finals;
        }

        private long reachedFrom(int address) {
            long reached = 1L << address;
            // No shortest chain passes a local address twice, so as many rounds as there are of them reach all.
            for (int round = 0; round < LOCALS; round++) {
                for (int local = 0; local < LOCALS; local++) {
                    if ((reached & (1L << local)) != 0L) {
                        reached |= goals[local];
                    }
                }
            }
            return reached;
        }
    }

    /** The routes of one domain, in the order in which they are tried. */
    private static final class Routes {
        final int[] hosts = new int[MOST_ROUTES];
        private final int[] preferences = new int[MOST_ROUTES];
        int size = 0;

        boolean hasRoomFor(int newHost) {
            for (int i = 0; i < size; i++) {
                if (hosts[i] == newHost) {
                    return false;
                }
            }
            return size < MOST_ROUTES;
        }

        int add(int newHost, int preference) {
            int place = size;
            // Equal preferences keep the order in which they were entered: only greater ones move up.
            while (place > 0 && preferences[place - 1] > preference) {
                hosts[place] = hosts[place - 1];
                preferences[place] = preferences[place - 1];
                place--;
            }
            hosts[place] = newHost;
            preferences[place] = preference;
            size++;
            return size;
        }

        int clear() {
            int had = size;
            size = 0;
            return had;
        }
    }

    /** Different addresses in an order, each with a state. */
    private static final class Recipients {
        final int[] addresses = new int[MOST_RECIPIENTS];
        final int[] states = new int[MOST_RECIPIENTS];
        int size = 0;

        void add(int address) {
            if (size < MOST_RECIPIENTS) {
                addresses[size] = address;
                states[size] = WAITING;
                size++;
            }
        }

        void addRising(long added) {
            for (int address = 0; address < ADDRESSES; address++) {
                if ((added & (1L << address)) != 0L) {
                    add(address);
                }
            }
        }

        long asBits() {
            long bits = 0L;
            for (int i = 0; i < size; i++) {
                bits |= 1L << addresses[i];
            }
            return bits;
        }

        int stateOf(int address) {
            for (int i = 0; i < size; i++) {
                if (addresses[i] == address) {
                    return states[i];
                }
            }
            return 0;
        }

        int inState(int state) {
            int found = 0;
            for (int i = 0; i < size; i++) {
                if (states[i] == state) {
                    found++;
                }
            }
            return found;
        }

        int failWaiting() {
            int failed = 0;
            for (int i = 0; i < size; i++) {
                if (states[i] == WAITING) {
                    states[i] = FAILED;
                    failed++;
                }
            }
            return failed;
        }

        void copyFrom(Recipients other) {
            for (int i = 0; i < other.size; i++) {
                addresses[i] = other.addresses[i];
                states[i] = other.states[i];
            }
            size = other.size;
        }
    }

    private static final class Transaction {
        final Recipients recipients = new Recipients();
        boolean open = false;
        int sender = NOBODY;

        void start(int newSender) {
            open = true;
            sender = newSender;
            recipients.size = 0;
        }
    }

    private static final class Message {
        final Recipients recipients = new Recipients();
        int number;
        int sender;
        int size;
        int start;
        int due;
        int gap;
        // A letter of nobody has the sender -1 too, so the sender does not tell what is a report.
        boolean isReport;

        void accept(int newNumber, int newSize, Transaction transaction) {
            number = newNumber;
            sender = transaction.sender;
            size = newSize;
            isReport = false;
            recipients.copyFrom(transaction.recipients);
        }

        void schedule(int clock, int minGap) {
            start = clock;
            due = clock;
            gap = minGap;
        }

        void putOff(int clock, int maxGap) {
            due = clock + gap;
            gap = Math.min(gap * 2, maxGap);
        }

        void becomeReport() {
            recipients.size = 0;
            recipients.add(sender);
            sender = NOBODY;
            size = 0;
            isReport = true;
        }

        void copyFrom(Message other) {
            number = other.number;
            sender = other.sender;
            size = other.size;
            start = other.start;
            due = other.due;
            gap = other.gap;
            isReport = other.isReport;
            recipients.copyFrom(other.recipients);
        }
    }

    /** Messages by rising number; those from index size on are spare ones, to be used again. */
    private static final class Queue {
        final Message[] messages = new Message[MOST_MESSAGES];
        int size = 0;

        Queue() {
            for (int i = 0; i < MOST_MESSAGES; i++) {
                messages[i] = new Message();
            }
        }

        /** Only while there is room; the new message stands last, so its number must be the greatest. */
        Message addSpare() {
            Message spare = messages[size];
            size++;
            return spare;
        }

        void removeAt(int index) {
            Message removed = messages[index];
            for (int i = index; i < size - 1; i++) {
                messages[i] = messages[i + 1];
            }
            size--;
            messages[size] = removed;
        }

        int indexOf(int number) {
            for (int i = 0; i < size; i++) {
                if (messages[i].number == number) {
                    return i;
                }
            }
            return -1;
        }

        int costs() {
            int sum = 0;
            for (int i = 0; i < size; i++) {
                sum += costOf(messages[i].size, messages[i].recipients.size);
            }
            return sum;
        }

        int waitingRecipients() {
            int sum = 0;
            for (int i = 0; i < size; i++) {
                sum += messages[i].recipients.inState(WAITING);
            }
            return sum;
        }

        void copyFrom(Queue other) {
            for (int i = 0; i < other.size; i++) {
                messages[i].copyFrom(other.messages[i]);
            }
            size = other.size;
        }
    }

    /** What was delivered to each address and carried by each host; no crash takes it back. */
    private static final class Deliveries {
        final int[] letters = new int[ADDRESSES];
        final int[] reports = new int[ADDRESSES];
        final int[] lastNumbers = new int[ADDRESSES];
        final int[] carried = new int[HOSTS];

        void note(int address, Message delivered) {
            if (delivered.isReport) {
                reports[address]++;
            } else {
                letters[address]++;
            }
            lastNumbers[address] = delivered.number;
        }
    }
}
