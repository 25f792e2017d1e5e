/** Promise 6: host. */
public final class Promise06HostTest {
    public static void main(String[] args) {
        answersTheStateItHad();
        keepsHostsApart();
        hostIsZeroToSeven();
        stateIsZeroToTwo();
        refusedChangesNothing();
        outlivesCrash();
        Check.end();
    }

    /** "answers the state it had" */
    private static void answersTheStateItHad() {
        for (int host = 0; host < 8; host++) {
            for (int before = 0; before < 3; before++) {
                for (int after = 0; after < 3; after++) {
                    MailAgent agent = Check.agent();
                    Check.due("the first state", agent.host(host, before), Check.UP);
                    Check.due("host(" + host + ", " + after + ")", agent.host(host, after), before);
                    Check.due("the last state", agent.host(host, Check.UP), after);
                }
            }
        }
    }

    private static void keepsHostsApart() {
        MailAgent agent = Check.agent();
        for (int host = 0; host < 8; host++) {
            agent.host(host, host % 3);
        }
        for (int host = 0; host < 8; host++) {
            Check.due("host(" + host + ", 0)", agent.host(host, 0), host % 3);
        }
    }

    /** "a host (0 .. 7)" */
    private static void hostIsZeroToSeven() {
        Check.range("host(n, 2)", 0, 7, Check.UP, host -> Check.agent().host(host, Check.GONE));
    }

    /** "a state (0 .. 2)" */
    private static void stateIsZeroToTwo() {
        Check.range("host(0, n)", 0, 2, Check.UP, state -> Check.agent().host(0, state));
        Check.range("host(7, n)", 0, 2, Check.UP, state -> Check.agent().host(7, state));
    }

    private static void refusedChangesNothing() {
        MailAgent agent = Check.agent();
        for (int host = 0; host < 8; host++) {
            agent.host(host, Check.BUSY);
        }
        for (int wrong : Check.outside(0, 7)) {
            agent.host(wrong, Check.GONE);
            agent.host(0, wrong);
            agent.host(7, wrong);
        }
        agent.host(7, 3);
        for (int host = 0; host < 8; host++) {
            Check.due("host(" + host + ", 0)", agent.host(host, 0), Check.BUSY);
        }
    }

    /** "hosts [...] are never lost" */
    private static void outlivesCrash() {
        MailAgent agent = Check.agent();
        agent.host(4, Check.GONE);
        agent.crash();
        Check.due("host(4, 0)", agent.host(4, 0), Check.GONE);
    }
}
