import java.util.ArrayDeque;
import java.util.ArrayList;
import java.util.Deque;
import java.util.List;
import java.util.TreeSet;

/**
 * What NodeServices must answer, told a second time from the document's words and in another form: everything that a
 * node knows stands in one object, and the token travels inside its message. It serves any number of calls.
 */
final class Model {
    static final String ARGUMENT = "throws.IllegalArgumentException";
    static final String STATE = "throws.IllegalStateException";
    static final String ELEMENT = "throws.NoSuchElementException";
    private static final String DONE = "done";

    private enum State { IDLE, WAITING, IN }

    private enum Kind {
        STAMP_REQUEST(0, 0), REPLY(0, 1), TOKEN_REQUEST(1, 0), TOKEN(1, 1), TREE_REQUEST(2, 0), PRIVILEGE(2, 1),
        ELECT(3, 0), LEADER(3, 1), WORK(4, 0), ANSWER(4, 1);

        final int service;
        final int number;

        Kind(int service, int number) {
            this.service = service;
            this.number = number;
        }
    }

    private static final class Token {
        final int[] done = new int[4];
        final List<Integer> row = new ArrayList<>();
    }

    private record Message(Kind kind, int says, Token token) {
    }

    private static final class Node {
        final int number;
        final State[] state = {State.IDLE, State.IDLE, State.IDLE};

        int clock = 0;
        int stamp = 0;
        int repliesStillDue = 0;
        final TreeSet<Integer> putOff = new TreeSet<>();

        final int[] counts = new int[4];
        Token token = null;

        int holder;
        final Deque<Integer> queue = new ArrayDeque<>();
        boolean asked = false;

        final int id;
        int leader = -1;
        boolean part = false;

        boolean busy = false;
        int parent = -1;
        int notAnswered = 0;

        Node(int number, int id) {
            this.number = number;
            this.id = id;
            this.holder = number == 3 ? 1 : 0;
        }
    }

    private final Node[] nodes = new Node[4];
    private final List<List<Deque<Message>>> channels = new ArrayList<>();
    private int cameIn = 0;
    private int sent = 0;
    private int ends = 0;
    private int root = -1;

    Model(int id, int step) {
        long first = Math.abs((long) id);
        long stride = Math.abs((long) step);
        for (int i = 0; i < 4; i++) {
            nodes[i] = new Node(i, stride % 101 == 0 ? i : (int) ((first + i * stride) % 101));
            channels.add(List.of(new ArrayDeque<>(), new ArrayDeque<>(), new ArrayDeque<>(), new ArrayDeque<>()));
        }
        nodes[0].token = new Token();
    }

    String answer(String call) {
        String[] words = call.split(" ");
        int[] n = new int[words.length - 1];
        for (int i = 0; i < n.length; i++) {
            n[i] = Integer.parseInt(words[i + 1]);
        }
        switch (words[0]) {
            case "want": return want(n[0], n[1]);
            case "leave": return leave(n[0], n[1]);
            case "start": return start(n[0]);
            case "begin": return begin(n[0]);
            case "spread": return spread(n[0], n[1]);
            case "rest": return rest(n[0]);
            case "deliver": return deliver(n[0], n[1]);
            case "first": return first(n[0], n[1]);
            case "waiting": return isChannel(n[0], n[1]) ? "" + channel(n[0], n[1]).size() : ARGUMENT;
            case "about": return isService(n[0]) && isNode(n[1]) ? "" + about(n[0], nodes[n[1]]) : ARGUMENT;
            case "more": return isService(n[0]) && isNode(n[1]) ? "" + more(n[0], nodes[n[1]]) : ARGUMENT;
            case "count": return "" + count(n[0]);
            default: throw new UnsupportedOperationException("no such method: " + words[0]);
        }
    }

    String seen() {
        StringBuilder text = new StringBuilder();
        for (String look : Run.looks()) {
            text.append(look).append(" = ").append(answer(look)).append("; ");
        }
        return text.toString();
    }

    static boolean isNode(int node) {
        return node >= 0 && node <= 3;
    }

    static boolean isLock(int lock) {
        return lock >= 0 && lock <= 2;
    }

    static boolean isService(int service) {
        return service >= 0 && service <= 4;
    }

    static boolean isChannel(int from, int to) {
        return isNode(from) && isNode(to) && from != to;
    }

    private Deque<Message> channel(int from, int to) {
        return channels.get(from).get(to);
    }

    private void send(Node from, int to, Kind kind, int says) {
        sent++;
        channel(from.number, to).addLast(new Message(kind, says, null));
    }

    private void sendToAllOthers(Node from, Kind kind, int says) {
        for (int to = 0; to < 4; to++) {
            if (to != from.number) {
                send(from, to, kind, says);
            }
        }
    }

    private void comeIn(Node node, int lock) {
        node.state[lock] = State.IN;
        cameIn++;
    }

    private String want(int lock, int number) {
        if (!isLock(lock) || !isNode(number)) {
            return ARGUMENT;
        }
        Node node = nodes[number];
        if (node.state[lock] != State.IDLE) {
            return STATE;
        }
        node.state[lock] = State.WAITING;
        if (lock == 0) {
            node.clock = node.clock + 1;
            node.stamp = node.clock;
            node.repliesStillDue = 3;
            sendToAllOthers(node, Kind.STAMP_REQUEST, node.stamp);
        } else if (lock == 1 && node.token != null) {
            comeIn(node, 1);
        } else if (lock == 1) {
            node.counts[number]++;
            sendToAllOthers(node, Kind.TOKEN_REQUEST, node.counts[number]);
        } else {
            node.queue.addLast(number);
            goOn(node);
        }
        return DONE;
    }

    private String leave(int lock, int number) {
        if (!isLock(lock) || !isNode(number)) {
            return ARGUMENT;
        }
        Node node = nodes[number];
        if (node.state[lock] != State.IN) {
            return STATE;
        }
        node.state[lock] = State.IDLE;
        if (lock == 0) {
            for (int other : node.putOff) {
                send(node, other, Kind.REPLY, 0);
            }
            node.putOff.clear();
        } else if (lock == 1) {
            leaveToken(node);
        } else {
            goOn(node);
        }
        return DONE;
    }

    private void leaveToken(Node node) {
        Token token = node.token;
        token.done[node.number] = node.counts[node.number];
        for (int other = 0; other < 4; other++) {
            if (!token.row.contains(other) && node.counts[other] - token.done[other] == 1) {
                token.row.add(other);
            }
        }
        if (!token.row.isEmpty()) {
            sendToken(node, token.row.remove(0));
        }
    }

    private void sendToken(Node node, int to) {
        sent++;
        channel(node.number, to).addLast(new Message(Kind.TOKEN, 0, node.token));
        node.token = null;
    }

    private void goOn(Node node) {
        if (node.holder == node.number && node.state[2] != State.IN && !node.queue.isEmpty()) {
            int next = node.queue.removeFirst();
            node.asked = false;
            if (next == node.number) {
                comeIn(node, 2);
            } else {
                node.holder = next;
                send(node, next, Kind.PRIVILEGE, 0);
            }
        }
        if (node.holder != node.number && !node.queue.isEmpty() && !node.asked) {
            send(node, node.holder, Kind.TREE_REQUEST, 0);
            node.asked = true;
        }
    }

    private String start(int number) {
        if (!isNode(number)) {
            return ARGUMENT;
        }
        if (nodes[number].part) {
            return STATE;
        }
        nodes[number].part = true;
        sendRound(nodes[number], Kind.ELECT, nodes[number].id);
        return DONE;
    }

    private void sendRound(Node node, Kind kind, int id) {
        send(node, node.number == 3 ? 0 : node.number + 1, kind, id);
    }

    private String begin(int number) {
        if (!isNode(number)) {
            return ARGUMENT;
        }
        boolean workIsLeft = root >= 0;
        for (Node node : nodes) {
            workIsLeft |= node.busy || node.parent >= 0 || node.notAnswered > 0;
        }
        if (workIsLeft) {
            return STATE;
        }
        root = number;
        nodes[number].busy = true;
        return DONE;
    }

    private String spread(int number, int to) {
        if (!isChannel(number, to)) {
            return ARGUMENT;
        }
        if (!nodes[number].busy || nodes[number].notAnswered == 20) {
            return STATE;
        }
        nodes[number].notAnswered++;
        send(nodes[number], to, Kind.WORK, 0);
        return DONE;
    }

    private String rest(int number) {
        if (!isNode(number)) {
            return ARGUMENT;
        }
        if (!nodes[number].busy) {
            return STATE;
        }
        nodes[number].busy = false;
        seeWhetherAllIsDone(nodes[number]);
        return DONE;
    }

    private void seeWhetherAllIsDone(Node node) {
        if (!node.busy && node.notAnswered == 0) {
            if (node.parent >= 0) {
                send(node, node.parent, Kind.ANSWER, 0);
                node.parent = -1;
            }
            if (root == node.number) {
                root = -1;
                ends++;
            }
        }
    }

    private String deliver(int from, int to) {
        if (!isChannel(from, to)) {
            return ARGUMENT;
        }
        if (channel(from, to).isEmpty()) {
            return ELEMENT;
        }
        Message message = channel(from, to).removeFirst();
        arrive(nodes[to], from, message);
        return "" + message.kind.service;
    }

    private void arrive(Node node, int from, Message message) {
        switch (message.kind) {
            case STAMP_REQUEST: arriveStampRequest(node, from, message.says); break;
            case REPLY:
                node.repliesStillDue--;
                if (node.repliesStillDue == 0) {
                    comeIn(node, 0);
                }
                break;
            case TOKEN_REQUEST:
                node.counts[from] = Math.max(node.counts[from], message.says);
                if (node.token != null && node.state[1] == State.IDLE
                        && node.counts[from] - node.token.done[from] == 1) {
                    sendToken(node, from);
                }
                break;
            case TOKEN:
                node.token = message.token;
                comeIn(node, 1);
                break;
            case TREE_REQUEST:
                node.queue.addLast(from);
                goOn(node);
                break;
            case PRIVILEGE:
                node.holder = node.number;
                goOn(node);
                break;
            case ELECT: arriveElect(node, message.says); break;
            case LEADER:
                if (message.says != node.id) {
                    node.leader = message.says;
                    node.part = false;
                    sendRound(node, Kind.LEADER, message.says);
                }
                break;
            case WORK:
                if (root == node.number || node.parent >= 0) {
                    send(node, from, Kind.ANSWER, 0);
                } else {
                    node.parent = from;
                }
                node.busy = true;
                break;
            default:
                node.notAnswered--;
                seeWhetherAllIsDone(node);
                break;
        }
    }

    private void arriveStampRequest(Node node, int from, int stamp) {
        if (stamp > node.clock) {
            node.clock = stamp;
        }
        boolean before = node.stamp < stamp || node.stamp == stamp && node.number < from;
        if (node.state[0] == State.IN || node.state[0] == State.WAITING && before) {
            node.putOff.add(from);
        } else {
            send(node, from, Kind.REPLY, 0);
        }
    }

    private void arriveElect(Node node, int id) {
        if (id == node.id) {
            node.part = false;
            node.leader = id;
            sendRound(node, Kind.LEADER, id);
        } else if (id > node.id) {
            node.part = true;
            sendRound(node, Kind.ELECT, id);
        } else if (!node.part) {
            node.part = true;
            sendRound(node, Kind.ELECT, node.id);
        }
    }

    private String first(int from, int to) {
        if (!isChannel(from, to)) {
            return ARGUMENT;
        }
        Deque<Message> channel = channel(from, to);
        if (channel.isEmpty()) {
            return "-1";
        }
        Kind kind = channel.getFirst().kind;
        return "" + (100 * kind.service + 10 * kind.number + (channel.size() > 1 ? 1 : 0));
    }

    private int about(int service, Node node) {
        switch (service) {
            case 3: return node.leader;
            case 4:
                boolean bound = root == node.number || node.parent >= 0;
                return (node.busy ? 1 : 0) + (bound ? 2 : 0) + 4 * node.notAnswered;
            default: return node.state[service].ordinal();
        }
    }

    private int more(int service, Node node) {
        switch (service) {
            case 0: return node.clock;
            case 1: return node.counts[node.number];
            case 2: return node.holder;
            case 3: return node.id + (node.part ? 1000 : 0);
            default: return node.parent;
        }
    }

    private int count(int what) {
        switch (what) {
            case 0: return cameIn;
            case 1: return sent;
            case 2: return ends;
            case 3: return root;
            default: return -1;
        }
    }
}
