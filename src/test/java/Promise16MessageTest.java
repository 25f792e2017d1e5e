/** Promise 16: message. */
public final class Promise16MessageTest {
    public static void main(String[] args) {
        listsByRisingNumber();
        emptyQueue();
        indexBehindTheLast();
        indexBelowZero();
        indexOfAFullQueue();
        Check.end();
    }

    /** "(from 0, by rising number)" */
    private static void listsByRisingNumber() {
        MailAgent agent = Check.agent();
        for (int i = 1; i <= 6; i++) {
            Check.send(agent, -1, 0, 1);
        }
        messagesAre(agent, 1, 2, 3, 4, 5, 6);
        agent.drop(2);
        agent.drop(5);
        messagesAre(agent, 1, 3, 4, 6);
        Check.send(agent, -1, 0, 1);
        Check.send(agent, -1, 0, 1);
        messagesAre(agent, 1, 3, 4, 6, 7, 8);
        agent.drop(1);
        agent.drop(8);
        messagesAre(agent, 3, 4, 6, 7);
        agent.crash();
        messagesAre(agent, 1, 3, 4, 6, 7, 8);
    }

    /** "0 if there is none" */
    private static void emptyQueue() {
        MailAgent agent = Check.agent();
        messagesAre(agent);
        Check.send(agent, -1, 0, 1);
        agent.drop(1);
        messagesAre(agent);
    }

    /** "0 if there is none": the first index that is not used, for every size of the queue. */
    private static void indexBehindTheLast() {
        MailAgent agent = Check.agent();
        for (int size = 0; size <= 6; size++) {
            Check.due("the last index", agent.message(size - 1), size);
            Check.due("the index behind it", agent.message(size), 0);
            Check.send(agent, -1, 0, 1);
        }
    }

    /** "0 if there is none" */
    private static void indexBelowZero() {
        MailAgent agent = Check.agent();
        Check.send(agent, -1, 0, 1);
        for (int k : new int[] {-1, -2, -256, -65536, Integer.MIN_VALUE}) {
            Check.due("message(" + k + ")", agent.message(k), 0);
        }
    }

    /** "0 if there is none": 5 is the last index that there can be. */
    private static void indexOfAFullQueue() {
        MailAgent agent = Check.agent();
        for (int i = 1; i <= 6; i++) {
            Check.send(agent, -1, 0, 1);
        }
        Check.due("message(5)", agent.message(5), 6);
        for (int k : new int[] {6, 7, 256, 65536, Integer.MAX_VALUE, -1, Integer.MIN_VALUE}) {
            Check.due("message(" + k + ")", agent.message(k), 0);
        }
    }

    private static void messagesAre(MailAgent agent, int... numbers) {
        for (int k = 0; k < 8; k++) {
            Check.due("message(" + k + ")", agent.message(k), k < numbers.length ? numbers[k] : 0);
        }
    }
}
