import java.util.Random;

/** Random runs of calls, the same at every start: each answer must be that of the model. */
public final class ModelTest {
    private static final int RUNS = 4000;
    /** With the look at the whole state, a run stays within the 512 calls that the document promises. */
    private static final int CALLS = 380;
    private static final int[] ODD = {-2, -1, 0, 1, 7, 8, 40, 41, 63, 64, 99, 100, 1000000, 1000001,
        Integer.MIN_VALUE, Integer.MAX_VALUE};
    /** How often each method of Calls.METHODS is called, in parts of their sum. */
    private static final int[] WEIGHTS = {3, 1, 3, 1, 8, 16, 28, 18, 22, 2, 4, 3, 6, 10, 3, 8, 3, 6, 6};

    public static void main(String[] args) {
        for (int run = 0; run < RUNS && Check.wrongAnswers() < 20; run++) {
            oneRun(run);
        }
        Check.end();
    }

    private static void oneRun(int run) {
        Random random = new Random(run);
        int minGap = random.nextInt(66) - 2;
        int maxGap = random.nextInt(4) == 0 ? random.nextInt(700) : random.nextInt(70);
        int giveUp = random.nextInt(4) == 0 ? random.nextInt(6500) : random.nextInt(200);
        MailAgent agent = new MailAgent(minGap, maxGap, giveUp);
        Model model = new Model(minGap, maxGap, giveUp);
        for (int i = 0; i < CALLS; i++) {
            same(run, agent, model, row(random, method(random), model));
        }
        lookAtAll(run, agent, model);
    }

    private static void lookAtAll(int run, MailAgent agent, Model model) {
        for (int what = 0; what < 7; what++) {
            same(run, agent, model, new int[] {13, what});
        }
        for (int k = 0; k < 7; k++) {
            int number = model.call(new int[] {14, k});
            same(run, agent, model, new int[] {14, k});
            same(run, agent, model, new int[] {16, number});
            same(run, agent, model, new int[] {17, number});
        }
        for (int address = 0; address < 24; address++) {
            for (int what = 0; what < 4; what++) {
                same(run, agent, model, new int[] {18, address, what});
            }
        }
    }

    private static int method(Random random) {
        int sum = 0;
        for (int weight : WEIGHTS) {
            sum += weight;
        }
        int drawn = random.nextInt(sum);
        int method = 0;
        while (drawn >= WEIGHTS[method]) {
            drawn -= WEIGHTS[method];
            method++;
        }
        return method;
    }

    private static int[] row(Random random, int method, Model model) {
        int[] row = new int[1 + Calls.PARAMETERS[method]];
        row[0] = method;
        for (int i = 1; i < row.length; i++) {
            row[i] = random.nextInt(60) == 0 ? ODD[random.nextInt(ODD.length)] : usual(random, method, i, model);
        }
        return row;
    }

    /** Few domains and hosts are used, so that calls meet. */
    private static int usual(Random random, int method, int place, Model model) {
        switch (Calls.METHODS[method]) {
            case "alias":
                return place == 1 ? random.nextInt(4) : address(random);
            case "route":
                return place == 1 ? 1 + random.nextInt(3) : random.nextInt(place == 2 ? 4 : 5);
            case "unroute":
                return 1 + random.nextInt(3);
            case "host":
                return place == 1 ? random.nextInt(4) : random.nextInt(7) % 3 % 2 + random.nextInt(5) / 4;
            case "from":
                return random.nextInt(5) == 0 ? -1 : address(random);
            case "data":
                return random.nextInt(4) == 0 ? random.nextInt(41) : random.nextInt(6);
            case "tick":
                return time(random, model);
            case "drop", "hurry", "sender", "due":
                return number(random, model);
            case "status":
                return place == 1 ? number(random, model) : address(random);
            case "received":
                return place == 1 ? address(random) % 16 : random.nextInt(4);
            case "to":
                return address(random);
            default:
                return random.nextInt(7);
        }
    }

    private static int address(Random random) {
        int drawn = random.nextInt(10);
        return drawn < 4 ? random.nextInt(8) : drawn < 9 ? 8 + random.nextInt(16) : random.nextInt(64);
    }

    private static int number(Random random, Model model) {
        int number = model.call(new int[] {14, random.nextInt(6)});
        return number == 0 ? random.nextInt(20) : number;
    }

    /** Half of the times are the due time of a message or one beside it. */
    private static int time(Random random, Model model) {
        int clock = model.call(new int[] {13, 4});
        int due = model.call(new int[] {17, number(random, model)});
        if (random.nextBoolean() && due >= clock) {
            return due - random.nextInt(2);
        }
        return clock + random.nextInt(random.nextInt(8) == 0 ? 100 : 8);
    }

    private static void same(int run, MailAgent agent, Model model, int[] row) {
        int want = model.call(row);
        Check.due("run " + run + ": " + Calls.told(row), Calls.ask(agent, row), want);
    }
}
