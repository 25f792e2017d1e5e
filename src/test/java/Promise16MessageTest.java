/** Promise 16: message. */
public final class Promise16MessageTest {
    public static void main(String[] args) {
        listsByRisingNumber();
        answersZeroOutside();
        Check.end();
    }

    private static void listsByRisingNumber() {
        MailAgent agent = Check.agent();
        for (int i = 1; i <= 6; i++) {
            Check.send(agent, -1, 0, 1);
        }
        messagesAre(agent, 1, 2, 3, 4, 5, 6);
        agent.drop(2);
        agent.drop(5);
        messagesAre(agent, 1, 3, 4, 6);
        Check.send(agent, -1, 0, 1);
        Check.send(agent, -1, 0, 1);
        messagesAre(agent, 1, 3, 4, 6, 7, 8);
    }

    private static void answersZeroOutside() {
        MailAgent agent = Check.agent();
        Check.send(agent, -1, 0, 1);
        for (int k : new int[] {-1, 1, 5, 6, 7, Integer.MIN_VALUE, Integer.MAX_VALUE}) {
            Check.due("message(" + k + ")", agent.message(k), 0);
        }
        agent.drop(1);
        Check.due("message(0)", agent.message(0), 0);
    }

    private static void messagesAre(MailAgent agent, int... numbers) {
        for (int k = 0; k < 8; k++) {
            Check.due("message(" + k + ")", agent.message(k), k < numbers.length ? numbers[k] : 0);
        }
    }
}
