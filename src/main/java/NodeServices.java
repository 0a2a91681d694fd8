/** Four nodes with three locks, an election and spreading work; every message waits until it is delivered. */
public final class NodeServices {
    private static final int NODES = 4;
    private static final int NONE = -1;

    private static final int STAMPS = 0;
    private static final int TOKEN = 1;
    private static final int TREE = 2;
    private static final int ELECTION = 3;
    private static final int WORK = 4;
    private static final int LOCKS = 3;
    private static final int SERVICES = 5;

    private static final int IDLE = 0;
    private static final int WAITING = 1;
    private static final int IN = 2;

    private final Network network;
    private final Lock[] locks;
    private final Election election;
    private final Work work;
    private final Service[] services;

    public NodeServices(int id, int step) {
        network = new Network();
        locks = new Lock[LOCKS];
        locks[STAMPS] = new StampLock(network);
        locks[TOKEN] = new TokenLock(network);
        locks[TREE] = new TreeLock(network);
        election = new Election(network, id, step);
        work = new Work(network);
        services = new Service[SERVICES];
        for (int lock = 0; lock < LOCKS; lock++) {
            services[lock] = locks[lock];
        }
        services[ELECTION] = election;
        services[WORK] = work;
    }

    public void want(int lock, int node) throws IllegalArgumentException, IllegalStateException {
        requireLock(lock);
        requireNode(node);
        if (locks[lock].state[node] != IDLE) {
            throw new IllegalStateException("the node is not idle");
        }
        locks[lock].ask(node);
    }

    public void leave(int lock, int node) throws IllegalArgumentException, IllegalStateException {
        requireLock(lock);
        requireNode(node);
        if (locks[lock].state[node] != IN) {
            throw new IllegalStateException("the node is not in");
        }
        locks[lock].release(node);
    }

    public void start(int node) throws IllegalArgumentException, IllegalStateException {
        requireNode(node);
        if (election.takesPart[node]) {
            throw new IllegalStateException("the node takes part in an election");
        }
        election.stand(node);
    }

    public void begin(int node) throws IllegalArgumentException, IllegalStateException {
        requireNode(node);
        if (!work.isOver()) {
            throw new IllegalStateException("there is work still");
        }
        work.plant(node);
    }

    public void spread(int node, int to) throws IllegalArgumentException, IllegalStateException {
        requireChannel(node, to);
        if (!work.busy[node] || work.hasMostUnanswered(node)) {
            throw new IllegalStateException("the node is not busy or has too many messages out");
        }
        work.share(node, to);
    }

    public void rest(int node) throws IllegalArgumentException, IllegalStateException {
        requireNode(node);
        if (!work.busy[node]) {
            throw new IllegalStateException("the node is not busy");
        }
        work.pause(node);
    }

    public int deliver(int from, int to) throws IllegalArgumentException, java.util.NoSuchElementException {
        requireChannel(from, to);
        Message message = network.channel(from, to).takeHead();
        if (message == null) {
            throw new java.util.NoSuchElementException("the channel is empty");
        }
        services[message.service].receive(from, to, message);
        return message.service;
    }

    public int first(int from, int to) throws IllegalArgumentException {
        requireChannel(from, to);
        Message message = network.channel(from, to).head;
        if (message == null) {
            return NONE;
        }
        int others = message.next == null ? 0 : 1;
        return 100 * message.service + 10 * message.kind + others;
    }

    public int waiting(int from, int to) throws IllegalArgumentException {
        requireChannel(from, to);
        return network.channel(from, to).size;
    }

    public int about(int service, int node) throws IllegalArgumentException {
        requireService(service);
        requireNode(node);
        return services[service].condition(node);
    }

    public int more(int service, int node) throws IllegalArgumentException {
        requireService(service);
        requireNode(node);
        return services[service].detail(node);
    }

    public int count(int what) {
        switch (what) {
            case 0:
                return entriesOfAllLocks();
            case 1:
                return network.sent;
            case 2:
                return work.ends;
            case 3:
                return work.root;
            default:
                return NONE;
        }
    }

    private int entriesOfAllLocks() {
        int entries = 0;
        for (int lock = 0; lock < LOCKS; lock++) {
            entries += locks[lock].entries;
        }
        return entries;
    }

    private static void requireLock(int lock) {
        if (lock < 0 || lock >= LOCKS) {
            throw new IllegalArgumentException("no such lock");
        }
    }

    private static void requireService(int service) {
        if (service < 0 || service >= SERVICES) {
            throw new IllegalArgumentException("no such service");
        }
    }

    private static void requireNode(int node) {
        if (node < 0 || node >= NODES) {
            throw new IllegalArgumentException("no such node");
        }
    }

    private static void requireChannel(int from, int to) {
        requireNode(from);
        requireNode(to);
        if (from == to) {
            throw new IllegalArgumentException("no channel leads from a node to itself");
        }
    }

    private static final class Message {
        final int service;
        final int kind;
        final int value;
        Message next;

        Message(int service, int kind, int value) {
            this.service = service;
            this.kind = kind;
            this.value = value;
        }
    }

    private static final class Channel {
        /** An object serves 512 calls, none of which sends more than two messages into one channel. */
        private static final int LIMIT = 2 * 512;

        Message head;
        Message tail;
        int size;

        void append(Message message) {
            if (size >= LIMIT) {
                return;
            }
            if (tail == null) {
                head = message;
            } else {
                tail.next = message;
            }
            tail = message;
            size++;
        }

        Message takeHead() {
            Message message = head;
            if (message == null) {
                return null;
            }
            head = message.next;
            if (head == null) {
                tail = null;
            }
            size--;
            return message;
        }
    }

    private static final class Network {
        private final Channel[] channels;
        int sent;

        Network() {
            channels = new Channel[NODES * NODES];
            for (int i = 0; i < channels.length; i++) {
                channels[i] = new Channel();
            }
        }

        Channel channel(int from, int to) {
            return channels[from * NODES + to];
        }

        void post(int from, int to, Message message) {
            sent++;
            channel(from, to).append(message);
        }
    }

    /** A row of nodes. By the rules of both locks that use it none stands in it twice, so it never grows past NODES. */
    private static final class NodeRow {
        private final int[] nodes = new int[NODES];
        private int size;

        boolean isEmpty() {
            return size == 0;
        }

        boolean contains(int node) {
            for (int i = 0; i < size; i++) {
                if (nodes[i] == node) {
                    return true;
                }
            }
            return false;
        }

        void append(int node) {
            if (size < NODES) {
                nodes[size] = node;
                size++;
            }
        }

        int takeHead() {
            int node = nodes[0];
            for (int i = 1; i < size; i++) {
                nodes[i - 1] = nodes[i];
            }
            if (size > 0) {
                size--;
            }
            return node;
        }
    }

    private abstract static class Service {
        private final Network network;
        private final int number;

        Service(Network network, int number) {
            this.network = network;
            this.number = number;
        }

        abstract void receive(int from, int node, Message message);

        abstract int condition(int node);

        abstract int detail(int node);

        void send(int from, int to, int kind, int value) {
            network.post(from, to, new Message(number, kind, value));
        }

        void sendToAllOthers(int from, int kind, int value) {
            for (int to = 0; to < NODES; to++) {
                if (to != from) {
                    send(from, to, kind, value);
                }
            }
        }
    }

    private abstract static class Lock extends Service {
        static final int REQUEST = 0;

        final int[] state = new int[NODES];
        int entries;

        Lock(Network network, int number) {
            super(network, number);
        }

        abstract void ask(int node);

        abstract void release(int node);

        @Override
        int condition(int node) {
            return state[node];
        }

        void enter(int node) {
            state[node] = IN;
            entries++;
        }
    }

    private static final class StampLock extends Lock {
        private static final int REPLY = 1;

        private final int[] clock = new int[NODES];
        private final int[] stamp = new int[NODES];
        private final int[] replies = new int[NODES];
        private final boolean[] putOff = new boolean[NODES * NODES];

        StampLock(Network network) {
            super(network, STAMPS);
        }

        @Override
        int detail(int node) {
            return clock[node];
        }

        @Override
        void ask(int node) {
            clock[node]++;
            stamp[node] = clock[node];
            replies[node] = 0;
            state[node] = WAITING;
            sendToAllOthers(node, REQUEST, stamp[node]);
        }

        @Override
        void release(int node) {
            state[node] = IDLE;
            for (int other = 0; other < NODES; other++) {
                if (putOff[node * NODES + other]) {
                    putOff[node * NODES + other] = false;
                    send(node, other, REPLY, 0);
                }
            }
        }

        @Override
        void receive(int from, int node, Message message) {
            if (message.kind == REQUEST) {
                takeRequest(from, node, message.value);
            } else {
                takeReply(node);
            }
        }

        private void takeRequest(int from, int node, int theirs) {
            clock[node] = Math.max(clock[node], theirs);
            if (state[node] == IN || state[node] == WAITING && isBefore(node, from, theirs)) {
                putOff[node * NODES + from] = true;
            } else {
                send(node, from, REPLY, 0);
            }
        }

        private boolean isBefore(int node, int other, int theirs) {
            return stamp[node] < theirs || stamp[node] == theirs && node < other;
        }

        private void takeReply(int node) {
            replies[node]++;
            if (replies[node] == NODES - 1) {
                enter(node);
            }
        }
    }

    private static final class TokenLock extends Lock {
        private static final int TOKEN_ITSELF = 1;

        private final int[][] known = new int[NODES][NODES];
        private final int[] done = new int[NODES];
        private final NodeRow row = new NodeRow();
        /** The node that has the token; NONE while the token is on its way. */
        private int keeper = 0;

        TokenLock(Network network) {
            super(network, TOKEN);
        }

        @Override
        int detail(int node) {
            return known[node][node];
        }

        @Override
        void ask(int node) {
            if (keeper == node) {
                enter(node);
                return;
            }
            known[node][node]++;
            state[node] = WAITING;
            sendToAllOthers(node, REQUEST, known[node][node]);
        }

        @Override
        void release(int node) {
            state[node] = IDLE;
            done[node] = known[node][node];
            for (int other = 0; other < NODES; other++) {
                if (!row.contains(other) && isOwed(node, other)) {
                    row.append(other);
                }
            }
            if (!row.isEmpty()) {
                passToken(node, row.takeHead());
            }
        }

        @Override
        void receive(int from, int node, Message message) {
            if (message.kind == REQUEST) {
                takeRequest(from, node, message.value);
            } else {
                keeper = node;
                enter(node);
            }
        }

        private void takeRequest(int from, int node, int theirs) {
            known[node][from] = Math.max(known[node][from], theirs);
            if (keeper == node && state[node] == IDLE && isOwed(node, from)) {
                passToken(node, from);
            }
        }

        private boolean isOwed(int node, int other) {
            return known[node][other] == done[other] + 1;
        }

        private void passToken(int node, int to) {
            keeper = NONE;
            send(node, to, TOKEN_ITSELF, 0);
        }
    }

    private static final class TreeLock extends Lock {
        private static final int PRIVILEGE = 1;
        private static final int[] FIRST_HOLDERS = {0, 0, 0, 1};

        private final int[] holder = FIRST_HOLDERS.clone();
        private final NodeRow[] queues = new NodeRow[NODES];
        private final boolean[] asked = new boolean[NODES];

        TreeLock(Network network) {
            super(network, TREE);
            for (int node = 0; node < NODES; node++) {
                queues[node] = new NodeRow();
            }
        }

        @Override
        int detail(int node) {
            return holder[node];
        }

        @Override
        void ask(int node) {
            state[node] = WAITING;
            queues[node].append(node);
            goOn(node);
        }

        @Override
        void release(int node) {
            state[node] = IDLE;
            goOn(node);
        }

        @Override
        void receive(int from, int node, Message message) {
            if (message.kind == REQUEST) {
                queues[node].append(from);
            } else {
                holder[node] = node;
            }
            goOn(node);
        }

        private void goOn(int node) {
            if (holder[node] == node && state[node] != IN && !queues[node].isEmpty()) {
                serve(node, queues[node].takeHead());
            }
            // The privilege may just have gone while others wait here still: it is asked back at once.
            if (holder[node] != node && !queues[node].isEmpty() && !asked[node]) {
                asked[node] = true;
                send(node, holder[node], REQUEST, 0);
            }
        }

        private void serve(int node, int next) {
            asked[node] = false;
            if (next == node) {
                enter(node);
            } else {
                holder[node] = next;
                send(node, next, PRIVILEGE, 0);
            }
        }
    }

    private static final class Election extends Service {
        private static final int ELECT = 0;
        private static final int LEADER = 1;
        private static final int MODULUS = 101;

        final boolean[] takesPart = new boolean[NODES];
        private final int[] ids = new int[NODES];
        private final int[] leader = new int[NODES];

        Election(Network network, int id, int step) {
            super(network, ELECTION);
            boolean counted = step % MODULUS == 0;
            // The remainder is taken before the sign goes, as the least int has no positive counterpart.
            int base = counted ? 0 : Math.abs(id % MODULUS);
            int stride = counted ? 1 : Math.abs(step % MODULUS);
            for (int node = 0; node < NODES; node++) {
                ids[node] = (base + node * stride) % MODULUS;
                leader[node] = NONE;
            }
        }

        @Override
        int condition(int node) {
            return leader[node];
        }

        @Override
        int detail(int node) {
            return takesPart[node] ? ids[node] + 1000 : ids[node];
        }

        void stand(int node) {
            takesPart[node] = true;
            sendOn(node, ELECT, ids[node]);
        }

        @Override
        void receive(int from, int node, Message message) {
            if (message.kind == ELECT) {
                takeElect(node, message.value);
            } else {
                takeLeader(node, message.value);
            }
        }

        private void takeElect(int node, int id) {
            if (id > ids[node]) {
                takesPart[node] = true;
                sendOn(node, ELECT, id);
            } else if (id == ids[node]) {
                takesPart[node] = false;
                leader[node] = id;
                sendOn(node, LEADER, id);
            } else if (!takesPart[node]) {
                stand(node);
            }
        }

        private void takeLeader(int node, int id) {
            if (id != ids[node]) {
                leader[node] = id;
                takesPart[node] = false;
                sendOn(node, LEADER, id);
            }
        }

        private void sendOn(int node, int kind, int id) {
            send(node, (node + 1) % NODES, kind, id);
        }
    }

    private static final class Work extends Service {
        private static final int WORK_ITSELF = 0;
        private static final int ANSWER = 1;
        private static final int MOST_UNANSWERED = 20;

        final boolean[] busy = new boolean[NODES];
        int root = NONE;
        int ends;
        private final int[] parent = new int[NODES];
        private final int[] unanswered = new int[NODES];

        Work(Network network) {
            super(network, WORK);
            for (int node = 0; node < NODES; node++) {
                parent[node] = NONE;
            }
        }

        @Override
        int condition(int node) {
            return (busy[node] ? 1 : 0) + (isEngaged(node) ? 2 : 0) + 4 * unanswered[node];
        }

        @Override
        int detail(int node) {
            return parent[node];
        }

        boolean isOver() {
            for (int node = 0; node < NODES; node++) {
                if (busy[node] || isEngaged(node) || unanswered[node] != 0) {
                    return false;
                }
            }
            return true;
        }

        boolean hasMostUnanswered(int node) {
            return unanswered[node] >= MOST_UNANSWERED;
        }

        void plant(int node) {
            root = node;
            busy[node] = true;
        }

        void share(int node, int to) {
            unanswered[node]++;
            send(node, to, WORK_ITSELF, 0);
        }

        void pause(int node) {
            busy[node] = false;
            settle(node);
        }

        @Override
        void receive(int from, int node, Message message) {
            if (message.kind == WORK_ITSELF) {
                takeWork(from, node);
            } else {
                unanswered[node]--;
                settle(node);
            }
        }

        private void takeWork(int from, int node) {
            if (isEngaged(node)) {
                send(node, from, ANSWER, 0);
            } else {
                parent[node] = from;
            }
            busy[node] = true;
        }

        private boolean isEngaged(int node) {
            return root == node || parent[node] != NONE;
        }

        private void settle(int node) {
            if (busy[node] || unanswered[node] != 0) {
                return;
            }
            if (parent[node] != NONE) {
                int to = parent[node];
                parent[node] = NONE;
                send(node, to, ANSWER, 0);
            }
            if (root == node) {
                root = NONE;
                ends++;
            }
        }
    }
}
