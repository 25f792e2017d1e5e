import com.sun.management.ThreadMXBean;
import java.lang.management.ManagementFactory;

/**
 * All calls of one run live in one room, so a new agent is small and no later call makes an object. The bytes that the
 * machine counts are allowed to be a few more than none, since the machine may make something of its own.
 */
public final class RoomTest {
    private static final int ROUNDS = 300;
    private static final int MOST_BYTES_OF_AN_AGENT = 16000;
    private static final ThreadMXBean THREADS = (ThreadMXBean) ManagementFactory.getThreadMXBean();

    public static void main(String[] args) {
        if (!THREADS.isThreadAllocatedMemorySupported() || !THREADS.isThreadAllocatedMemoryEnabled()) {
            System.out.println("nothing was tested: this machine does not count what is made");
            return;
        }
        newAgentIsSmall();
        laterCallsMakeNothing();
        Check.end();
    }

    private static void newAgentIsSmall() {
        MailAgent[] agents = new MailAgent[ROUNDS];
        long before = bytes();
        for (int i = 0; i < ROUNDS; i++) {
            agents[i] = new MailAgent(5, 20, 60);
        }
        long each = (bytes() - before) / ROUNDS;
        Check.isTrue("a new agent has " + each + " bytes", each > 0 && each < MOST_BYTES_OF_AN_AGENT);
    }

    private static void laterCallsMakeNothing() {
        MailAgent[] agents = new MailAgent[ROUNDS + 1];
        for (int i = 0; i < agents.length; i++) {
            agents[i] = new MailAgent(5, 20, 60);
        }
        useAll(agents[ROUNDS]);
        long before = bytes();
        for (int i = 0; i < ROUNDS; i++) {
            useAll(agents[i]);
        }
        long made = bytes() - before;
        Check.isTrue("the calls of " + ROUNDS + " agents have made " + made + " bytes", made < ROUNDS);
    }

    private static long bytes() {
        return THREADS.getCurrentThreadAllocatedBytes();
    }

    /** Every method, with accepted and with refused calls. */
    private static void useAll(MailAgent agent) {
        for (int i = 0; i < 12; i++) {
            agent.alias(i % 9, 8 + i);
            agent.route(i % 8, i % 9, i);
            agent.host(i % 9, i % 3);
            agent.from(i - 2);
            agent.to(i);
            agent.to(20 + i);
            agent.data(i);
            agent.tick(5 * i);
            agent.tick(5 * i);
            agent.hurry(i);
            agent.drop(i - 6);
            agent.count(i % 8);
            agent.message(i);
            agent.status(i, 20 + i);
            agent.sender(i);
            agent.due(i);
            agent.received(i, i % 5);
            if (i % 3 == 2) {
                agent.crash();
            } else {
                agent.sync();
            }
            agent.unalias(i);
            agent.unroute(i / 2);
        }
    }
}
