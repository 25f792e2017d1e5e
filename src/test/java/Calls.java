import java.util.Arrays;

/** Calls as rows: the index of the method in METHODS, then the arguments. */
final class Calls {
    static final String[] METHODS = {"alias", "unalias", "route", "unroute", "host", "from", "to", "data", "tick",
        "sync", "crash", "drop", "hurry", "count", "message", "status", "sender", "due", "received"};
    static final int[] PARAMETERS = {2, 1, 3, 1, 2, 1, 1, 1, 1, 0, 0, 1, 1, 1, 1, 2, 1, 1, 2};

    private Calls() {
    }

    static int[] row(String method, int... arguments) {
        int[] row = new int[1 + arguments.length];
        row[0] = Arrays.asList(METHODS).indexOf(method);
        System.arraycopy(arguments, 0, row, 1, arguments.length);
        return row;
    }

    static String told(int[] row) {
        String arguments = Arrays.toString(Arrays.copyOfRange(row, 1, row.length));
        return METHODS[row[0]] + "(" + arguments.substring(1, arguments.length() - 1) + ")";
    }

    static int ask(MailAgent agent, int[] row) {
        switch (METHODS[row[0]]) {
            case "alias":
                return agent.alias(row[1], row[2]);
            case "unalias":
                return agent.unalias(row[1]);
            case "route":
                return agent.route(row[1], row[2], row[3]);
            case "unroute":
                return agent.unroute(row[1]);
            case "host":
                return agent.host(row[1], row[2]);
            case "from":
                return agent.from(row[1]);
            case "to":
                return agent.to(row[1]);
            case "data":
                return agent.data(row[1]);
            case "tick":
                return agent.tick(row[1]);
            case "sync":
                return agent.sync();
            case "crash":
                return agent.crash();
            case "drop":
                return agent.drop(row[1]);
            case "hurry":
                return agent.hurry(row[1]);
            case "count":
                return agent.count(row[1]);
            case "message":
                return agent.message(row[1]);
            case "status":
                return agent.status(row[1], row[2]);
            case "sender":
                return agent.sender(row[1]);
            case "due":
                return agent.due(row[1]);
            default:
                return agent.received(row[1], row[2]);
        }
    }
}
