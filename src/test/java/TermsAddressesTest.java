/** Terms: addresses and their domains, what is local, and nobody. */
public final class TermsAddressesTest {
    public static void main(String[] args) {
        domainIsAddressByEight();
        localIsZeroToSeven();
        domainOneIsNotLocal();
        nobodyIsMinusOne();
        Check.end();
    }

    /** "the domain of an address is address / 8": the first and the last address of each domain, and all between. */
    private static void domainIsAddressByEight() {
        for (int domain = 1; domain < 8; domain++) {
            for (int address = 8; address < 64; address++) {
                MailAgent agent = Check.agent();
                agent.route(domain, 5, 1);
                Check.send(agent, -1, 0, address);
                boolean inside = address >= domain * 8 && address <= domain * 8 + 7;
                String told = "a route of domain " + domain + ", a message to " + address;
                Check.due(told, agent.tick(0), inside ? 1 : 0);
                Check.due(told + ", carried", agent.received(5, 3), inside ? 1 : 0);
            }
        }
    }

    /** "Domain 0 is the agent's own: addresses 0 .. 7 are LOCAL.": they need no route and no host. */
    private static void localIsZeroToSeven() {
        for (int address = 0; address < 64; address++) {
            MailAgent agent = Check.agent();
            Check.send(agent, -1, 0, address);
            Check.due("without routes to " + address, agent.tick(0), address <= 7 ? 1 : 0);
            Check.due("received(" + address + ", 0)", agent.received(address, 0), address <= 7 ? 1 : 0);
        }
    }

    private static void domainOneIsNotLocal() {
        MailAgent agent = Check.routedAgent();
        for (int host = 0; host < 8; host++) {
            agent.host(host, Check.GONE);
        }
        Check.send(agent, -1, 0, 7, 8);
        Check.due("7 alone is local", agent.tick(0), 1);
        Check.due("received(7, 0)", agent.received(7, 0), 1);
        Check.due("received(8, 0)", agent.received(8, 0), 0);
    }

    /** "The sender -1 is nobody.": it gets no report, and every address from 0 on does. */
    private static void nobodyIsMinusOne() {
        for (int sender = -1; sender < 64; sender++) {
            MailAgent agent = Check.agent();
            Check.send(agent, sender, 0, sender == 63 ? 62 : 63);
            agent.tick(0);
            Check.due("messages after a failure, sender " + sender, agent.count(0), sender == -1 ? 0 : 1);
            Check.due("the report's recipient", agent.status(1, sender), sender == -1 ? 0 : Check.WAITING);
        }
    }
}
