/** What it is: "An object is used for at most 512 calls after it has been made": all 512 answer as promised. */
public final class UseTest {
    private static final int MOST_CALLS = 512;

    public static void main(String[] args) {
        acceptsInEveryFourthCall();
        hurriesInEveryCall();
        deliversAgainAndAgain();
        ticksInEveryCall();
        Check.end();
    }

    /** The most messages that can be accepted and taken out again. */
    private static void acceptsInEveryFourthCall() {
        MailAgent agent = Check.agent();
        for (int number = 1; number <= MOST_CALLS / 4; number++) {
            Check.due("number", Check.send(agent, -1, 40, 1), number);
            Check.due("drop(" + number + ")", agent.drop(number), 1);
        }
    }

    private static void hurriesInEveryCall() {
        MailAgent agent = Check.agent();
        Check.send(agent, -1, 0, 1);
        int hurries = MOST_CALLS - 4;
        for (int i = 0; i < hurries; i++) {
            Check.due("hurry(1)", agent.hurry(1), 1);
        }
        Check.due("crash()", agent.crash(), hurries % 24);
    }

    /** The most deliveries that there can be: a crash brings back what was delivered. */
    private static void deliversAgainAndAgain() {
        MailAgent agent = Check.agent();
        agent.route(1, 1, 1);
        for (int i = 0; i < 4; i++) {
            Check.send(agent, -1, 0, 8, 9, 10, 11);
        }
        int rounds = (MOST_CALLS - 1 - 4 * 6 - 3) / 2;
        for (int i = 0; i < rounds; i++) {
            Check.due("tick(" + i + ")", agent.tick(i), 16);
            Check.due("crash()", agent.crash(), 20);
        }
        Check.due("received(8, 0)", agent.received(8, 0), 4 * rounds);
        Check.due("received(1, 3)", agent.received(1, 3), 16 * rounds);
        Check.due("received(11, 2)", agent.received(11, 2), 4);
    }

    private static void ticksInEveryCall() {
        MailAgent agent = Check.agent();
        for (int i = 1; i < MOST_CALLS; i++) {
            Check.due("tick", agent.tick(i * 1000), 0);
        }
        Check.due("count(4)", agent.count(4), 1000 * (MOST_CALLS - 1));
    }
}
