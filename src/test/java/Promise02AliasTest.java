/** Promise 2: alias. */
public final class Promise02AliasTest {
    public static void main(String[] args) {
        addsGoalsUpToFour();
        keepsLocalsApart();
        refusesWhatIsOutOfRange();
        refusalChangesNothing();
        outlivesCrash();
        Check.end();
    }

    private static void addsGoalsUpToFour() {
        MailAgent agent = Check.agent();
        Check.due("alias(0, 63)", agent.alias(0, 63), 1);
        Check.due("alias(0, 0)", agent.alias(0, 0), 2);
        Check.due("alias(0, 63) again", agent.alias(0, 63), MailAgent.FULL);
        Check.due("alias(0, 31)", agent.alias(0, 31), 3);
        Check.due("alias(0, 32)", agent.alias(0, 32), 4);
        Check.due("a fifth goal", agent.alias(0, 33), MailAgent.FULL);
        Check.due("one of the four again", agent.alias(0, 31), MailAgent.FULL);
        Check.due("unalias(0)", agent.unalias(0), 4);
        Check.due("alias(0, 33)", agent.alias(0, 33), 1);
    }

    private static void keepsLocalsApart() {
        MailAgent agent = Check.agent();
        for (int local = 0; local < 8; local++) {
            Check.due("alias(" + local + ", 40)", agent.alias(local, 40), 1);
        }
        Check.due("alias(7, 41)", agent.alias(7, 41), 2);
        Check.due("unalias(6)", agent.unalias(6), 1);
        agent.from(-1);
        Check.due("to(7)", agent.to(7), 2);
        Check.due("to(6)", agent.to(6), 1);
        Check.due("count(6)", agent.count(6), 3);
    }

    private static void refusesWhatIsOutOfRange() {
        MailAgent agent = Check.agent();
        int[][] wrong = {{-1, 0}, {8, 0}, {0, -1}, {0, 64}, {Integer.MIN_VALUE, 1}, {Integer.MAX_VALUE, 1},
            {1, Integer.MIN_VALUE}, {1, Integer.MAX_VALUE}};
        for (int[] pair : wrong) {
            Check.due("alias(" + pair[0] + ", " + pair[1] + ")", agent.alias(pair[0], pair[1]), MailAgent.SYNTAX);
        }
        for (int goal = 8; goal < 12; goal++) {
            agent.alias(0, goal);
        }
        Check.due("range before room", agent.alias(0, 64), MailAgent.SYNTAX);
        Check.due("unalias(1)", agent.unalias(1), 0);
    }

    private static void refusalChangesNothing() {
        MailAgent agent = Check.agent();
        agent.alias(2, 9);
        agent.alias(2, 9);
        agent.alias(2, 64);
        Check.due("unalias(2)", agent.unalias(2), 1);
    }

    private static void outlivesCrash() {
        MailAgent agent = Check.agent();
        agent.alias(2, 9);
        agent.crash();
        Check.due("unalias(2)", agent.unalias(2), 1);
    }
}
