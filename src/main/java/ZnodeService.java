import java.util.Arrays;
import java.util.NoSuchElementException;

/** A tree of nodes kept by three servers, with sessions, watches, crashes and cut lines. */
public final class ZnodeService {
    public static final int OTHER = -2;

    private static final int NONE = -1;
    private static final int SERVERS = 3;
    private static final int VOTES = 2;
    private static final int SESSIONS = 4;
    private static final int PATHS = 259;
    private static final int PARENTS = 43;
    private static final int NAMES = 6;
    private static final int MOST_TIMEOUT = 50;
    private static final int MOST_TICK = 20;
    private static final int MOST_EVENTS = 8;
    private static final int EVENT_STEP = 300;
    private static final int FULL_LOG = 60;
    // A full log takes no CREATE any more, so behind it each session has one CLOSE at most.
    private static final int LOG_ROOM = FULL_LOG + SESSIONS;

    private static final int OWNED_FLAG = 1;
    private static final int SEQUENCE_FLAG = 2;

    private static final int CREATE = 0;
    private static final int SET = 1;
    private static final int DELETE = 2;
    private static final int CLOSE = 3;

    private static final int CREATED = 1;
    private static final int CHANGED = 2;
    private static final int GONE = 3;
    private static final int CHILD = 4;

    private static final int DATA_WATCH = 1;
    private static final int CHILDREN_WATCH = 2;

    private final Server[] servers = new Server[SERVERS];
    private final Session[] sessions = new Session[SESSIONS];
    // Kept beside the leader's log entry by entry, so that no call has to play the log again.
    private final Tree planned = new Tree();
    private int leader = 0;
    private int epoch = 1;
    private int time = 0;

    public ZnodeService() {
        for (int i = 0; i < SERVERS; i++) {
            servers[i] = new Server();
        }
        for (int i = 0; i < SESSIONS; i++) {
            sessions[i] = new Session();
        }
    }

    public int open(int session, int server, int timeout)
            throws IllegalArgumentException, IllegalStateException {
        requireSession(session);
        requireServer(server);
        requireRange(timeout, 1, MOST_TIMEOUT);
        Session opened = sessions[session];
        if (opened.open || opened.due || !isLinked(server) || !hasQuorum()) {
            throw new IllegalStateException();
        }
        opened.start(server, timeout, time);
        return time + timeout;
    }

    public int close(int session) throws IllegalArgumentException, IllegalStateException {
        requireSession(session);
        requireReach(session);
        requireQuorum();
        int owned = planned.countOwned(session);
        sessions[session].end();
        closeDueSessions();
        return owned;
    }

    public int ping(int session) throws IllegalArgumentException, IllegalStateException {
        requireSession(session);
        requireReach(session);
        requireQuorum();
        sessions[session].heard = time;
        return sessions[session].eventCount;
    }

    public int move(int session, int server) throws IllegalArgumentException, IllegalStateException {
        requireSession(session);
        requireServer(server);
        requireOpen(session);
        if (!servers[server].up) {
            throw new IllegalStateException();
        }
        Session moved = sessions[session];
        int before = moved.server;
        moved.server = server;
        moved.dropWatches();
        return before;
    }

    public int create(int session, int path, int data, int flags)
            throws IllegalArgumentException, IllegalStateException, NoSuchElementException,
            UnsupportedOperationException, IndexOutOfBoundsException {
        requireSession(session);
        requireRange(flags, 0, OWNED_FLAG | SEQUENCE_FLAG);
        boolean inSequence = (flags & SEQUENCE_FLAG) != 0;
        requireRange(path, inSequence ? 0 : 1, (inSequence ? PARENTS : PATHS) - 1);
        requireReach(session);
        int parent = inSequence ? path : parentOf(path);
        requireNode(planned, parent);
        if (planned.owner[parent] != NONE || (inSequence && planned.next[parent] >= NAMES)) {
            throw new UnsupportedOperationException();
        }
        int made = inSequence ? childOf(parent, planned.next[parent]) : path;
        if (planned.has(made)) {
            throw new IndexOutOfBoundsException();
        }
        int owner = (flags & OWNED_FLAG) != 0 ? session : NONE;
        proposeChange(new Entry(CREATE, made, data, owner, inSequence));
        return made;
    }

    public int set(int session, int path, int version, int data)
            throws IllegalArgumentException, IllegalStateException, NoSuchElementException {
        requireSession(session);
        requirePath(path);
        requireVersion(version);
        requireReach(session);
        requireNode(planned, path);
        if (isOtherVersion(path, version)) {
            return OTHER;
        }
        proposeChange(new Entry(SET, path, data, NONE, false));
        return planned.version[path];
    }

    public int delete(int session, int path, int version)
            throws IllegalArgumentException, IllegalStateException, NoSuchElementException,
            UnsupportedOperationException {
        requireSession(session);
        requireRange(path, 1, PATHS - 1);
        requireVersion(version);
        requireReach(session);
        requireNode(planned, path);
        if (isOtherVersion(path, version)) {
            return OTHER;
        }
        if (planned.childrenOf(path) != 0) {
            throw new UnsupportedOperationException();
        }
        int before = planned.version[path];
        proposeChange(new Entry(DELETE, path, 0, NONE, false));
        return before;
    }

    public int get(int session, int path, boolean watch)
            throws IllegalArgumentException, IllegalStateException, NoSuchElementException {
        requireSession(session);
        requirePath(path);
        Tree tree = treeOf(session);
        requireNode(tree, path);
        if (watch) {
            sessions[session].watch(path, DATA_WATCH);
        }
        return tree.data[path];
    }

    public boolean exists(int session, int path, boolean watch)
            throws IllegalArgumentException, IllegalStateException {
        requireSession(session);
        requirePath(path);
        Tree tree = treeOf(session);
        if (watch) {
            sessions[session].watch(path, DATA_WATCH);
        }
        return tree.has(path);
    }

    public int children(int session, int path, boolean watch)
            throws IllegalArgumentException, IllegalStateException, NoSuchElementException {
        requireSession(session);
        requireRange(path, 0, PARENTS - 1);
        Tree tree = treeOf(session);
        requireNode(tree, path);
        if (watch) {
            sessions[session].watch(path, CHILDREN_WATCH);
        }
        return tree.childrenOf(path);
    }

    public int fact(int session, int path, int what)
            throws IllegalArgumentException, IllegalStateException, NoSuchElementException {
        requireSession(session);
        requirePath(path);
        requireRange(what, 0, 2);
        Tree tree = treeOf(session);
        requireNode(tree, path);
        switch (what) {
            case 0:
                return tree.version[path];
            case 1:
                return path < PARENTS ? tree.next[path] : 0;
            default:
                return tree.owner[path];
        }
    }

    public int event(int session)
            throws IllegalArgumentException, IllegalStateException, NoSuchElementException {
        requireSession(session);
        requireOpen(session);
        if (sessions[session].eventCount == 0) {
            throw new NoSuchElementException();
        }
        return sessions[session].takeEvent();
    }

    public int crash(int server) throws IllegalArgumentException, IllegalStateException {
        requireServer(server);
        Server crashed = servers[server];
        if (!crashed.up) {
            throw new IllegalStateException();
        }
        crashed.up = false;
        if (server == leader) {
            leader = NONE;
        }
        for (int i = 0; i < SESSIONS; i++) {
            if (isAt(i, server)) {
                sessions[i].dropWatches();
            }
        }
        return crashed.length;
    }

    public int restart(int server) throws IllegalArgumentException, IllegalStateException {
        requireServer(server);
        Server restarted = servers[server];
        if (restarted.up) {
            throw new IllegalStateException();
        }
        restarted.up = true;
        spread();
        int applied = restarted.applied;
        closeDueSessions();
        return applied;
    }

    public int alone(int server, boolean on) throws IllegalArgumentException {
        requireServer(server);
        boolean before = servers[server].alone;
        servers[server].alone = on;
        spread();
        closeDueSessions();
        return before != on ? 1 : 0;
    }

    public int elect() throws IllegalStateException {
        int voters = 0;
        int best = NONE;
        for (int i = 0; i < SERVERS; i++) {
            if (servers[i].isOnline()) {
                voters++;
                if (best == NONE || servers[i].leadsBefore(servers[best])) {
                    best = i;
                }
            }
        }
        if (voters < VOTES || best == NONE) {
            throw new IllegalStateException();
        }
        leader = best;
        epoch++;
        planAnew(servers[best]);
        spread();
        closeDueSessions();
        return best;
    }

    public int tick(int by) throws IllegalArgumentException {
        requireRange(by, 0, MOST_TICK);
        time += by;
        int expired = 0;
        for (int i = 0; i < SESSIONS; i++) {
            Session session = sessions[i];
            if (session.open && session.heard + session.timeout <= time) {
                session.end();
                expired++;
            }
        }
        closeDueSessions();
        return expired;
    }

    public int state(int server, int what) throws IllegalArgumentException {
        requireServer(server);
        requireRange(what, 0, 5);
        Server asked = servers[server];
        switch (what) {
            case 0:
                return asked.length;
            case 1:
                return asked.applied;
            case 2:
                return asked.up ? 1 : 0;
            case 3:
                return isLinked(server) ? 1 : 0;
            case 4:
                return asked.tree.countNodes();
            default:
                return asked.age;
        }
    }

    public int count(int what) throws IllegalArgumentException {
        requireRange(what, 0, 3 + SESSIONS);
        switch (what) {
            case 0:
                return time;
            case 1:
                return leader;
            case 2:
                return epoch;
            case 3:
                return hasQuorum() ? 1 : 0;
            default:
                return sessions[what - 4].standing();
        }
    }

    private static void requireRange(int number, int least, int most) {
        if (number < least || number > most) {
            throw new IllegalArgumentException();
        }
    }

    private static void requireSession(int session) {
        requireRange(session, 0, SESSIONS - 1);
    }

    private static void requireServer(int server) {
        requireRange(server, 0, SERVERS - 1);
    }

    private static void requirePath(int path) {
        requireRange(path, 0, PATHS - 1);
    }

    private static void requireVersion(int version) {
        if (version < -1) {
            throw new IllegalArgumentException();
        }
    }

    private static void requireNode(Tree tree, int path) {
        if (!tree.has(path)) {
            throw new NoSuchElementException();
        }
    }

    private void requireOpen(int session) {
        if (!sessions[session].open) {
            throw new IllegalStateException();
        }
    }

    private void requireReach(int session) {
        Session asking = sessions[session];
        boolean reaches = asking.open && servers[asking.server].up
                && (isLinked(asking.server) || asking.server == leader);
        if (!reaches) {
            throw new IllegalStateException();
        }
    }

    private void requireQuorum() {
        if (!hasQuorum()) {
            throw new IllegalStateException();
        }
    }

    /** The tree that a connected session reads, which may lag behind the leader's. */
    private Tree treeOf(int session) {
        Session asking = sessions[session];
        if (!asking.open || !servers[asking.server].up) {
            throw new IllegalStateException();
        }
        return servers[asking.server].tree;
    }

    private boolean isOtherVersion(int path, int version) {
        return version != -1 && version != planned.version[path];
    }

    private boolean isAt(int session, int server) {
        return sessions[session].open && sessions[session].server == server;
    }

    private boolean isLinked(int server) {
        return leader != NONE && servers[leader].isOnline() && servers[server].isOnline();
    }

    private boolean hasQuorum() {
        int linked = 0;
        for (int i = 0; i < SERVERS; i++) {
            if (isLinked(i)) {
                linked++;
            }
        }
        return linked >= VOTES;
    }

    private static int parentOf(int path) {
        return (path - 1) / NAMES;
    }

    private static int childOf(int parent, int name) {
        return NAMES * parent + name + 1;
    }

    /** Proposes for a caller, who is refused where votes are too few, though the entry stays. */
    private void proposeChange(Entry entry) {
        if (leader == NONE || servers[leader].length >= FULL_LOG) {
            throw new IllegalStateException();
        }
        appendAndPlan(entry);
        spread();
        requireQuorum();
    }

    private void appendAndPlan(Entry entry) {
        if (leader != NONE) {
            servers[leader].append(entry);
            planned.play(entry);
        }
    }

    private void planAnew(Server leading) {
        planned.clear();
        for (int i = 0; i < leading.length; i++) {
            planned.play(leading.log[i]);
        }
    }

    private void spread() {
        if (leader == NONE) {
            return;
        }
        boolean voted = hasQuorum();
        for (int i = 0; i < SERVERS; i++) {
            if (isLinked(i)) {
                servers[i].follow(servers[leader], epoch);
                if (voted) {
                    applyLog(i);
                }
            }
        }
    }

    // What is applied had two votes, so every later leader's log begins with it and only the rest is played.
    private void applyLog(int server) {
        Server applying = servers[server];
        for (int i = applying.applied; i < applying.length; i++) {
            Entry entry = applying.log[i];
            for (int s = 0; s < SESSIONS; s++) {
                if (isAt(s, server)) {
                    sessions[s].hear(entry, applying.tree);
                }
            }
            applying.tree.play(entry);
        }
        applying.applied = applying.length;
    }

    // Called where QUORUM may come or a session may become DUE: after any other call none is DUE that could be closed.
    private void closeDueSessions() {
        if (!hasQuorum()) {
            return;
        }
        for (int i = 0; i < SESSIONS; i++) {
            if (sessions[i].due) {
                if (planned.countOwned(i) > 0) {
                    appendAndPlan(new Entry(CLOSE, 0, 0, i, false));
                    spread();
                }
                sessions[i].due = false;
            }
        }
    }

    private static final class Entry {
        final int kind;
        final int path;
        final int data;
        final int owner;
        final boolean inSequence;

        Entry(int kind, int path, int data, int owner, boolean inSequence) {
            this.kind = kind;
            this.path = path;
            this.data = data;
            this.owner = owner;
            this.inSequence = inSequence;
        }
    }

    private static final class Tree {
        final int[] data = new int[PATHS];
        // NONE where there is no node.
        final int[] version = new int[PATHS];
        // NONE also where there is no node.
        final int[] owner = new int[PATHS];
        // Only these can have children, so the others' NEXT stays 0.
        final int[] next = new int[PARENTS];

        Tree() {
            Arrays.fill(version, NONE);
            Arrays.fill(owner, NONE);
            version[0] = 0;
        }

        void clear() {
            Arrays.fill(data, 0);
            Arrays.fill(version, NONE);
            Arrays.fill(owner, NONE);
            Arrays.fill(next, 0);
            version[0] = 0;
        }

        boolean has(int path) {
            return version[path] != NONE;
        }

        void play(Entry entry) {
            switch (entry.kind) {
                case CREATE:
                    makeNode(entry);
                    break;
                case SET:
                    data[entry.path] = entry.data;
                    version[entry.path]++;
                    break;
                case DELETE:
                    dropNode(entry.path);
                    break;
                default:
                    dropOwned(entry.owner);
                    break;
            }
        }

        void makeNode(Entry entry) {
            int path = entry.path;
            data[path] = entry.data;
            version[path] = 0;
            owner[path] = entry.owner;
            if (path < PARENTS) {
                next[path] = 0;
            }
            if (entry.inSequence) {
                int parent = parentOf(path);
                next[parent] = path - childOf(parent, 0) + 1;
            }
        }

        void dropNode(int path) {
            version[path] = NONE;
            owner[path] = NONE;
        }

        void dropOwned(int session) {
            for (int path = 1; path < PATHS; path++) {
                if (owner[path] == session) {
                    dropNode(path);
                }
            }
        }

        int childrenOf(int path) {
            if (path >= PARENTS) {
                return 0;
            }
            int names = 0;
            for (int name = 0; name < NAMES; name++) {
                if (has(childOf(path, name))) {
                    names |= 1 << name;
                }
            }
            return names;
        }

        int countNodes() {
            int nodes = 0;
            for (int path = 0; path < PATHS; path++) {
                if (has(path)) {
                    nodes++;
                }
            }
            return nodes;
        }

        int countOwned(int session) {
            int owned = 0;
            for (int path = 1; path < PATHS; path++) {
                if (owner[path] == session) {
                    owned++;
                }
            }
            return owned;
        }
    }

    private static final class Server {
        final Entry[] log = new Entry[LOG_ROOM];
        final Tree tree = new Tree();
        int length = 0;
        int applied = 0;
        int age = 1;
        boolean up = true;
        boolean alone = false;

        boolean isOnline() {
            return up && !alone;
        }

        boolean leadsBefore(Server other) {
            return age > other.age || (age == other.age && length > other.length);
        }

        void append(Entry entry) {
            if (length < LOG_ROOM) {
                log[length] = entry;
                length++;
            }
        }

        void follow(Server leading, int newAge) {
            for (int i = 0; i < leading.length; i++) {
                log[i] = leading.log[i];
            }
            length = leading.length;
            age = newAge;
        }
    }

    private static final class Session {
        // For each path the sum of its kinds of watches.
        final int[] watches = new int[PATHS];
        final int[] events = new int[MOST_EVENTS];
        int eventCount = 0;
        boolean open = false;
        boolean due = false;
        int server = 0;
        int timeout = 0;
        int heard = 0;

        int standing() {
            return open ? 1 : due ? 2 : 0;
        }

        void start(int newServer, int newTimeout, int now) {
            open = true;
            server = newServer;
            timeout = newTimeout;
            heard = now;
        }

        void end() {
            open = false;
            due = true;
            eventCount = 0;
            dropWatches();
        }

        void watch(int path, int kind) {
            watches[path] |= kind;
        }

        void dropWatches() {
            Arrays.fill(watches, 0);
        }

        // Heard before the tree plays the entry, since a CLOSE tells of nodes that are gone behind it.
        void hear(Entry entry, Tree tree) {
            switch (entry.kind) {
                case CREATE:
                    tellOf(entry.path, CREATED);
                    break;
                case SET:
                    tellOf(entry.path, CHANGED);
                    break;
                case DELETE:
                    tellOf(entry.path, GONE);
                    break;
                default:
                    for (int path = 1; path < PATHS; path++) {
                        if (tree.owner[path] == entry.owner) {
                            tellOf(path, GONE);
                        }
                    }
                    break;
            }
        }

        // Both kinds of watch tell the same of a node that goes, and together they tell it once.
        private void tellOf(int path, int kind) {
            tellWatches(path, kind == GONE ? DATA_WATCH | CHILDREN_WATCH : DATA_WATCH, kind);
            if (kind != CHANGED) {
                tellWatches(parentOf(path), CHILDREN_WATCH, CHILD);
            }
        }

        private void tellWatches(int path, int telling, int kind) {
            if ((watches[path] & telling) == 0) {
                return;
            }
            watches[path] &= ~telling;
            if (eventCount < MOST_EVENTS) {
                events[eventCount] = kind * EVENT_STEP + path;
                eventCount++;
            }
        }

        int takeEvent() {
            int oldest = events[0];
            for (int i = 1; i < eventCount; i++) {
                events[i - 1] = events[i];
            }
            eventCount--;
            return oldest;
        }
    }
}
