/** Promise 2: alias. */
public final class Promise02AliasTest {
    public static void main(String[] args) {
        answersHowManyItHasThen();
        refusesAFifthGoal();
        refusesAGoalThatItHas();
        keepsLocalsApart();
        localIsZeroToSeven();
        goalIsZeroToSixtyThree();
        testsTheRangeBeforeTheRoom();
        refusedForRangeChangesNothing();
        refusedForRoomChangesNothing();
        outlivesCrash();
        Check.end();
    }

    /** "answers how many it has then" */
    private static void answersHowManyItHasThen() {
        MailAgent agent = Check.agent();
        Check.due("alias(1, 63)", agent.alias(1, 63), 1);
        Check.due("alias(1, 0)", agent.alias(1, 0), 2);
        Check.due("alias(1, 31)", agent.alias(1, 31), 3);
        Check.due("alias(1, 32)", agent.alias(1, 32), 4);
        Check.finalsAre(agent, 1, 0, 31, 32, 63);
    }

    /** "It has 4 goals [...]: FULL." */
    private static void refusesAFifthGoal() {
        MailAgent agent = agentWithFourGoals();
        for (int goal : new int[] {0, 1, 7, 12, 63}) {
            Check.due("a fifth goal, " + goal, agent.alias(1, goal), MailAgent.FULL);
        }
        Check.due("one of the four again", agent.alias(1, 8), MailAgent.FULL);
        Check.due("unalias(1)", agent.unalias(1), 4);
        Check.due("there is room again", agent.alias(1, 12), 1);
    }

    /** "It has [...] this one: FULL." */
    private static void refusesAGoalThatItHas() {
        for (int goal : new int[] {0, 1, 31, 32, 63}) {
            MailAgent agent = Check.agent();
            Check.due("alias(1, " + goal + ")", agent.alias(1, goal), 1);
            Check.due("alias(1, " + goal + ") again", agent.alias(1, goal), MailAgent.FULL);
            Check.due("another one", agent.alias(1, 40), 2);
            Check.due("alias(1, " + goal + ") again", agent.alias(1, goal), MailAgent.FULL);
            Check.due("unalias(1)", agent.unalias(1), 2);
            Check.due("alias(1, " + goal + ") anew", agent.alias(1, goal), 1);
        }
    }

    private static void keepsLocalsApart() {
        MailAgent agent = Check.agent();
        for (int local = 0; local < 8; local++) {
            Check.due("alias(" + local + ", 40)", agent.alias(local, 40), 1);
        }
        Check.due("alias(7, 41)", agent.alias(7, 41), 2);
        Check.due("unalias(6)", agent.unalias(6), 1);
        agent.from(-1);
        Check.due("to(7)", agent.to(7), 2);
        Check.due("to(6)", agent.to(6), 1);
        Check.due("count(6)", agent.count(6), 3);
    }

    /** "a local address (0 .. 7)" */
    private static void localIsZeroToSeven() {
        Check.range("alias(n, 9)", 0, 7, 1, local -> Check.agent().alias(local, 9));
    }

    /** "a goal (0 .. 63)" */
    private static void goalIsZeroToSixtyThree() {
        Check.range("alias(0, n)", 0, 63, 1, goal -> Check.agent().alias(0, goal));
        Check.range("alias(7, n)", 0, 63, 1, goal -> Check.agent().alias(7, goal));
    }

    /** "and that is tested before all else" */
    private static void testsTheRangeBeforeTheRoom() {
        MailAgent agent = agentWithFourGoals();
        Check.due("alias(1, 64)", agent.alias(1, 64), MailAgent.SYNTAX);
        Check.due("alias(1, -1)", agent.alias(1, -1), MailAgent.SYNTAX);
        Check.due("alias(8, 64)", agent.alias(8, 64), MailAgent.SYNTAX);
    }

    private static void refusedForRangeChangesNothing() {
        MailAgent agent = Check.agent();
        agent.alias(2, 9);
        for (int wrong : Check.outside(0, 63)) {
            agent.alias(2, wrong);
        }
        for (int wrong : Check.outside(0, 7)) {
            agent.alias(wrong, 10);
        }
        Check.finalsAre(agent, 2, 9);
        Check.due("unalias(2)", agent.unalias(2), 1);
        for (int local = 0; local < 8; local++) {
            Check.due("unalias(" + local + ")", agent.unalias(local), 0);
        }
    }

    private static void refusedForRoomChangesNothing() {
        MailAgent agent = agentWithFourGoals();
        agent.alias(1, 12);
        agent.alias(1, 8);
        Check.finalsAre(agent, 1, 8, 9, 10, 11);
        Check.due("unalias(1)", agent.unalias(1), 4);
        agent.alias(1, 50);
        agent.alias(1, 50);
        Check.finalsAre(agent, 1, 50);
        Check.due("unalias(1)", agent.unalias(1), 1);
    }

    /** "aliases [...] are never lost" */
    private static void outlivesCrash() {
        MailAgent agent = Check.agent();
        agent.alias(2, 9);
        agent.crash();
        Check.finalsAre(agent, 2, 9);
        Check.due("unalias(2)", agent.unalias(2), 1);
    }

    private static MailAgent agentWithFourGoals() {
        MailAgent agent = Check.agent();
        for (int i = 0; i < 4; i++) {
            Check.due("goal " + (i + 1), agent.alias(1, 8 + i), i + 1);
        }
        return agent;
    }
}
