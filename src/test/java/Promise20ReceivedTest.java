/** Promise 20: received. */
public final class Promise20ReceivedTest {
    public static void main(String[] args) {
        countsLettersAndReportsApart();
        aLetterOfNobodyIsNoReport();
        countsWhatHostsCarry();
        tellsTheLastNumber();
        noneIsDelivered();
        staysWhateverHappens();
        addressIsZeroToSixtyThree();
        hostIsZeroToSeven();
        whatIsZeroToThree();
        Check.end();
    }

    /** "deliveries to it that were no reports (0), that were reports (1)" */
    private static void countsLettersAndReportsApart() {
        MailAgent agent = Check.agent();
        Check.send(agent, 7, 0, 7);
        Check.send(agent, 7, 0, 0);
        Check.send(agent, 7, 0, 63);
        Check.due("tick(0)", agent.tick(0), 2);
        Check.due("tick(0)", agent.tick(0), 1);
        receivedAre(agent, 7, 1, 1, 3);
        receivedAre(agent, 0, 1, 0, 2);
        receivedAre(agent, 63, 0, 0, 0);
        Check.send(agent, 7, 0, 7);
        agent.tick(0);
        receivedAre(agent, 7, 2, 1, 4);
    }

    private static void aLetterOfNobodyIsNoReport() {
        MailAgent agent = Check.agent();
        Check.send(agent, -1, 0, 7);
        agent.tick(0);
        receivedAre(agent, 7, 1, 0, 1);
        // The same place in the queue holds first a report and then a letter.
        Check.send(agent, 6, 0, 8);
        agent.tick(0);
        agent.tick(0);
        receivedAre(agent, 6, 0, 1, 2);
        Check.send(agent, -1, 0, 6);
        agent.tick(0);
        receivedAre(agent, 6, 1, 1, 3);
    }

    /** "For 3: deliveries carried by the host address" */
    private static void countsWhatHostsCarry() {
        MailAgent agent = Check.agent();
        agent.route(1, 0, 0);
        agent.route(7, 7, 0);
        Check.send(agent, 8, 0, 8, 9, 63, 1);
        Check.send(agent, 8, 0, 16);
        Check.due("tick(0)", agent.tick(0), 4);
        Check.due("tick(0)", agent.tick(0), 1);
        Check.due("received(0, 3), a report too", agent.received(0, 3), 3);
        Check.due("received(7, 3)", agent.received(7, 3), 1);
        Check.due("received(1, 3)", agent.received(1, 3), 0);
        receivedAre(agent, 63, 1, 0, 1);
        receivedAre(agent, 8, 1, 1, 2);
        receivedAre(agent, 9, 1, 0, 1);
        receivedAre(agent, 16, 0, 0, 0);
    }

    /** "the number of the message delivered to it last" */
    private static void tellsTheLastNumber() {
        MailAgent agent = Check.routedAgent();
        agent.host(1, Check.BUSY);
        Check.send(agent, -1, 0, 8);
        agent.tick(0);
        agent.host(1, Check.UP);
        Check.send(agent, -1, 0, 8);
        agent.tick(0);
        receivedAre(agent, 8, 1, 0, 2);
        agent.tick(5);
        Check.due("the last is not the greatest", agent.received(8, 2), 1);
    }

    /** "For an address (0 .. 63): [...]" */
    private static void addressIsZeroToSixtyThree() {
        for (int what = 0; what < 3; what++) {
            int asked = what;
            Check.range("received(n, " + what + ")", 0, 63, 0, address -> Check.agent().received(address, asked));
        }
        MailAgent agent = Check.routedAgent();
        Check.send(agent, -1, 0, 0, 7, 8, 63);
        agent.tick(0);
        for (int address : new int[] {0, 7, 8, 63}) {
            receivedAre(agent, address, 1, 0, 1);
        }
        for (int address : new int[] {1, 6, 9, 62}) {
            receivedAre(agent, address, 0, 0, 0);
        }
    }

    /** "For 3: deliveries carried by the host address (0 .. 7)." */
    private static void hostIsZeroToSeven() {
        Check.range("received(n, 3)", 0, 7, 0, host -> Check.agent().received(host, 3));
        Check.due("an address that is no host", Check.agent().received(63, 3), MailAgent.SYNTAX);
        Check.due("a host's number is an address too", Check.agent().received(8, 2), 0);
    }

    /** "Another what, address or host: SYNTAX." */
    private static void whatIsZeroToThree() {
        Check.range("received(0, n)", 0, 3, 0, what -> Check.agent().received(0, what));
        Check.range("received(7, n)", 0, 3, 0, what -> Check.agent().received(7, what));
        for (int what : Check.outside(0, 3)) {
            for (int address : new int[] {-1, 8, 63, 64}) {
                Check.due("received(" + address + ", " + what + ")",
                    Check.agent().received(address, what), MailAgent.SYNTAX);
            }
        }
    }

    /** "the number of the message delivered to it last, 0 if none" */
    private static void noneIsDelivered() {
        MailAgent agent = Check.busyAgent();
        Check.send(agent, -1, 0, 8, 16);
        agent.tick(0);
        receivedAre(agent, 8, 0, 0, 0);
        receivedAre(agent, 16, 0, 0, 0);
        Check.due("received(1, 3)", agent.received(1, 3), 0);
    }

    /** "What is delivered (received, carried) stays so whatever happens" */
    private static void staysWhateverHappens() {
        MailAgent agent = Check.routedAgent();
        Check.send(agent, 9, 0, 0, 8);
        agent.unroute(2);
        Check.send(agent, 9, 0, 16);
        agent.tick(0);
        agent.tick(0);
        agent.crash();
        agent.drop(1);
        agent.drop(2);
        agent.unroute(1);
        agent.host(1, Check.GONE);
        receivedAre(agent, 0, 1, 0, 1);
        receivedAre(agent, 8, 1, 0, 1);
        receivedAre(agent, 9, 0, 1, 2);
        Check.due("received(1, 3)", agent.received(1, 3), 2);
    }

    private static void receivedAre(MailAgent agent, int address, int letters, int reports, int last) {
        Check.due("received(" + address + ", 0)", agent.received(address, 0), letters);
        Check.due("received(" + address + ", 1)", agent.received(address, 1), reports);
        Check.due("received(" + address + ", 2)", agent.received(address, 2), last);
    }
}
