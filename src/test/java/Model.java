import java.util.ArrayList;
import java.util.List;
import java.util.Map;
import java.util.Set;
import java.util.TreeMap;
import java.util.TreeSet;

/**
 * The document told a second time, slowly: PLANNED is played from the LOG whenever it is asked for, and DUE
 * sessions are looked at behind every call. Answers are texts, as Script gives them.
 */
final class Model {
    private record Node(int data, int version, int next, int owner) { }

    private record Entry(String kind, int path, int data, int owner, boolean sequence) { }

    private static final class Server {
        List<Entry> log = new ArrayList<>();
        final List<Entry> applied = new ArrayList<>();
        TreeMap<Integer, Node> tree = rootOnly();
        boolean up = true;
        boolean alone = false;
        int age = 1;
    }

    private static final class Session {
        boolean open;
        boolean due;
        int server;
        int timeout;
        int heard;
        final Set<String> watches = new TreeSet<>();
        final List<Integer> events = new ArrayList<>();
    }

    private static final class Refused extends RuntimeException {
        private static final long serialVersionUID = 1;

        Refused(String name) {
            super(name);
        }
    }

    private final Server[] servers = {new Server(), new Server(), new Server()};
    private final Session[] sessions = {new Session(), new Session(), new Session(), new Session()};
    private Integer leader = 0;
    private int epoch = 1;
    private int time = 0;

    String answer(String[] words) {
        int[] n = new int[words.length - 1];
        for (int i = 0; i < n.length; i++) {
            n[i] = words[i + 1].equals("true") ? 1 : words[i + 1].equals("false") ? 0 : Integer.parseInt(words[i + 1]);
        }
        String answer;
        try {
            answer = call(words[0], n);
        } catch (Refused e) {
            return e.getMessage();
        }
        closeDue();
        return answer;
    }

    /** Each server's TREE must be what the ENTRIES give that it APPLIED, and these the first of its LOG. */
    boolean isSound() {
        for (Server server : servers) {
            if (!server.tree.equals(play(server.applied))
                    || server.applied.size() > server.log.size()
                    || !server.applied.equals(server.log.subList(0, server.applied.size()))) {
                return false;
            }
        }
        return true;
    }

    int countEntries() {
        return servers[0].log.size() + servers[1].log.size() + servers[2].log.size();
    }

    private String call(String name, int[] n) {
        switch (name) {
            case "open": return open(n[0], n[1], n[2]);
            case "close": return close(n[0]);
            case "ping": return ping(n[0]);
            case "move": return move(n[0], n[1]);
            case "create": return create(n[0], n[1], n[2], n[3]);
            case "set": return set(n[0], n[1], n[2], n[3]);
            case "delete": return delete(n[0], n[1], n[2]);
            case "get": return get(n[0], n[1], n[2] == 1);
            case "exists": return exists(n[0], n[1], n[2] == 1);
            case "children": return children(n[0], n[1], n[2] == 1);
            case "fact": return fact(n[0], n[1], n[2]);
            case "event": return event(n[0]);
            case "crash": return crash(n[0]);
            case "restart": return restart(n[0]);
            case "alone": return alone(n[0], n[1] == 1);
            case "elect": return elect();
            case "tick": return tick(n[0]);
            case "state": return state(n[0], n[1]);
            case "count": return count(n[0]);
            default: throw new AssertionError(name);
        }
    }

    private String open(int s, int server, int timeout) {
        range(s, 0, 3);
        range(server, 0, 2);
        range(timeout, 1, 50);
        Session session = sessions[s];
        refuse(session.open || session.due, "IllegalStateException");
        refuse(!linked(server) || !quorum(), "IllegalStateException");
        session.open = true;
        session.server = server;
        session.timeout = timeout;
        session.heard = time;
        return "" + (time + timeout);
    }

    private String close(int s) {
        range(s, 0, 3);
        refuse(!reaches(s) || !quorum(), "IllegalStateException");
        long owned = planned().values().stream().filter(node -> node.owner == s).count();
        end(sessions[s]);
        return "" + owned;
    }

    private String ping(int s) {
        range(s, 0, 3);
        refuse(!reaches(s) || !quorum(), "IllegalStateException");
        sessions[s].heard = time;
        return "" + sessions[s].events.size();
    }

    private String move(int s, int server) {
        range(s, 0, 3);
        range(server, 0, 2);
        refuse(!sessions[s].open || !servers[server].up, "IllegalStateException");
        int before = sessions[s].server;
        sessions[s].server = server;
        sessions[s].watches.clear();
        return "" + before;
    }

    private String create(int s, int path, int data, int flags) {
        range(s, 0, 3);
        range(flags, 0, 3);
        boolean sequence = flags >= 2;
        if (sequence) {
            range(path, 0, 42);
        } else {
            range(path, 1, 258);
        }
        refuse(!reaches(s), "IllegalStateException");
        Map<Integer, Node> planned = planned();
        Node parent = planned.get(sequence ? path : parent(path));
        refuse(parent == null, "NoSuchElementException");
        refuse(parent.owner != -1 || sequence && parent.next == 6, "UnsupportedOperationException");
        int made = sequence ? 6 * path + parent.next + 1 : path;
        refuse(planned.containsKey(made), "IndexOutOfBoundsException");
        proposeFor(new Entry("create", made, data, flags % 2 == 1 ? s : -1, sequence));
        return "" + made;
    }

    private String set(int s, int path, int version, int data) {
        range(s, 0, 3);
        range(path, 0, 258);
        range(version, -1, Integer.MAX_VALUE);
        refuse(!reaches(s), "IllegalStateException");
        Node node = planned().get(path);
        refuse(node == null, "NoSuchElementException");
        if (version != -1 && version != node.version) {
            return "-2";
        }
        proposeFor(new Entry("set", path, data, -1, false));
        return "" + (node.version + 1);
    }

    private String delete(int s, int path, int version) {
        range(s, 0, 3);
        range(path, 1, 258);
        range(version, -1, Integer.MAX_VALUE);
        refuse(!reaches(s), "IllegalStateException");
        Map<Integer, Node> planned = planned();
        Node node = planned.get(path);
        refuse(node == null, "NoSuchElementException");
        if (version != -1 && version != node.version) {
            return "-2";
        }
        refuse(planned.keySet().stream().anyMatch(p -> p > 0 && parent(p) == path), "UnsupportedOperationException");
        proposeFor(new Entry("delete", path, 0, -1, false));
        return "" + node.version;
    }

    private String get(int s, int path, boolean watch) {
        range(s, 0, 3);
        range(path, 0, 258);
        Node node = read(s).get(path);
        refuse(node == null, "NoSuchElementException");
        watch(s, watch, "data " + path);
        return "" + node.data;
    }

    private String exists(int s, int path, boolean watch) {
        range(s, 0, 3);
        range(path, 0, 258);
        boolean there = read(s).containsKey(path);
        watch(s, watch, "data " + path);
        return "" + there;
    }

    private String children(int s, int path, boolean watch) {
        range(s, 0, 3);
        range(path, 0, 42);
        Map<Integer, Node> tree = read(s);
        refuse(!tree.containsKey(path), "NoSuchElementException");
        watch(s, watch, "children " + path);
        int sum = 0;
        for (int child : tree.keySet()) {
            if (child > 0 && parent(child) == path) {
                sum += (int) Math.pow(2, child - 6 * path - 1);
            }
        }
        return "" + sum;
    }

    private String fact(int s, int path, int what) {
        range(s, 0, 3);
        range(path, 0, 258);
        range(what, 0, 2);
        Node node = read(s).get(path);
        refuse(node == null, "NoSuchElementException");
        return "" + new int[] {node.version, node.next, node.owner}[what];
    }

    private String event(int s) {
        range(s, 0, 3);
        refuse(!sessions[s].open, "IllegalStateException");
        refuse(sessions[s].events.isEmpty(), "NoSuchElementException");
        return "" + sessions[s].events.remove(0);
    }

    private String crash(int server) {
        range(server, 0, 2);
        refuse(!servers[server].up, "IllegalStateException");
        servers[server].up = false;
        if (leader != null && leader == server) {
            leader = null;
        }
        for (Session session : sessions) {
            if (session.server == server) {
                session.watches.clear();
            }
        }
        return "" + servers[server].log.size();
    }

    private String restart(int server) {
        range(server, 0, 2);
        refuse(servers[server].up, "IllegalStateException");
        servers[server].up = true;
        spread();
        return "" + servers[server].applied.size();
    }

    private String alone(int server, boolean on) {
        range(server, 0, 2);
        String answer = servers[server].alone == on ? "0" : "1";
        servers[server].alone = on;
        spread();
        return answer;
    }

    private String elect() {
        List<Integer> able = new ArrayList<>();
        for (int i = 0; i < 3; i++) {
            if (servers[i].up && !servers[i].alone) {
                able.add(i);
            }
        }
        refuse(able.size() < 2, "IllegalStateException");
        able.sort((a, b) -> {
            if (servers[a].age != servers[b].age) {
                return servers[b].age - servers[a].age;
            }
            if (servers[a].log.size() != servers[b].log.size()) {
                return servers[b].log.size() - servers[a].log.size();
            }
            return a - b;
        });
        leader = able.get(0);
        epoch++;
        spread();
        return "" + leader;
    }

    private String tick(int by) {
        range(by, 0, 20);
        time += by;
        int expired = 0;
        for (Session session : sessions) {
            if (session.open && session.heard + session.timeout <= time) {
                end(session);
                expired++;
            }
        }
        return "" + expired;
    }

    private String state(int server, int what) {
        range(server, 0, 2);
        range(what, 0, 5);
        Server s = servers[server];
        return "" + new int[] {s.log.size(), s.applied.size(), s.up ? 1 : 0, linked(server) ? 1 : 0,
            s.tree.size(), s.age}[what];
    }

    private String count(int what) {
        range(what, 0, 7);
        if (what >= 4) {
            Session session = sessions[what - 4];
            return session.open ? "1" : session.due ? "2" : "0";
        }
        return "" + new int[] {time, leader == null ? -1 : leader, epoch, quorum() ? 1 : 0}[what];
    }

    private static void range(int number, int least, int most) {
        refuse(number < least || number > most, "IllegalArgumentException");
    }

    private static void refuse(boolean yes, String name) {
        if (yes) {
            throw new Refused(name);
        }
    }

    private static int parent(int path) {
        return (path - 1) / 6;
    }

    private static TreeMap<Integer, Node> rootOnly() {
        TreeMap<Integer, Node> tree = new TreeMap<>();
        tree.put(0, new Node(0, 0, 0, -1));
        return tree;
    }

    private boolean linked(int server) {
        return leader != null && servers[leader].up && !servers[leader].alone
            && servers[server].up && !servers[server].alone;
    }

    private boolean quorum() {
        return (linked(0) ? 1 : 0) + (linked(1) ? 1 : 0) + (linked(2) ? 1 : 0) >= 2;
    }

    private boolean reaches(int s) {
        Session session = sessions[s];
        return session.open && servers[session.server].up
            && (linked(session.server) || leader != null && leader == session.server);
    }

    private Map<Integer, Node> read(int s) {
        refuse(!sessions[s].open || !servers[sessions[s].server].up, "IllegalStateException");
        return servers[sessions[s].server].tree;
    }

    private void watch(int s, boolean asked, String watch) {
        if (asked) {
            sessions[s].watches.add(watch);
        }
    }

    private static void end(Session session) {
        session.open = false;
        session.due = true;
        session.watches.clear();
        session.events.clear();
    }

    private void closeDue() {
        for (int s = 0; s < 4; s++) {
            int owner = s;
            if (sessions[s].due && quorum()) {
                if (planned().values().stream().anyMatch(node -> node.owner == owner)) {
                    propose(new Entry("close", 0, 0, s, false));
                }
                sessions[s].due = false;
            }
        }
    }

    private TreeMap<Integer, Node> planned() {
        return play(servers[leader].log);
    }

    private static TreeMap<Integer, Node> play(List<Entry> entries) {
        TreeMap<Integer, Node> tree = rootOnly();
        for (Entry entry : entries) {
            step(tree, entry);
        }
        return tree;
    }

    /** The changes that the ENTRY makes, as rows of kind of event and path. */
    private static List<int[]> step(TreeMap<Integer, Node> tree, Entry entry) {
        List<int[]> changes = new ArrayList<>();
        int path = entry.path;
        switch (entry.kind) {
            case "create" -> {
                tree.put(path, new Node(entry.data, 0, 0, entry.owner));
                if (entry.sequence) {
                    Node p = tree.get(parent(path));
                    int name = path - 1 - 6 * parent(path);
                    tree.put(parent(path), new Node(p.data, p.version, name + 1, p.owner));
                }
                changes.add(new int[] {1, path});
            }
            case "set" -> {
                Node old = tree.get(path);
                tree.put(path, new Node(entry.data, old.version + 1, old.next, old.owner));
                changes.add(new int[] {2, path});
            }
            case "delete" -> {
                tree.remove(path);
                changes.add(new int[] {3, path});
            }
            default -> {
                for (int owned : List.copyOf(tree.keySet())) {
                    if (tree.get(owned).owner == entry.owner) {
                        tree.remove(owned);
                        changes.add(new int[] {3, owned});
                    }
                }
            }
        }
        return changes;
    }

    private void proposeFor(Entry entry) {
        refuse(servers[leader].log.size() >= 60, "IllegalStateException");
        propose(entry);
        refuse(!quorum(), "IllegalStateException");
    }

    private void propose(Entry entry) {
        servers[leader].log.add(entry);
        spread();
    }

    private void spread() {
        if (leader == null) {
            return;
        }
        for (int i = 0; i < 3; i++) {
            if (linked(i)) {
                servers[i].log = new ArrayList<>(servers[leader].log);
                servers[i].age = epoch;
            }
        }
        for (int i = 0; i < 3; i++) {
            if (quorum() && linked(i)) {
                applyAll(i);
            }
        }
    }

    private void applyAll(int server) {
        Server s = servers[server];
        while (s.applied.size() < s.log.size()) {
            Entry entry = s.log.get(s.applied.size());
            s.applied.add(entry);
            for (int[] change : step(s.tree, entry)) {
                for (Session session : sessions) {
                    if (session.open && session.server == server) {
                        tell(session, change[0], change[1]);
                    }
                }
            }
        }
    }

    private static void tell(Session session, int kind, int path) {
        if (session.watches.remove("data " + path)) {
            addEvent(session, kind * 300 + path);
            if (kind == 3) {
                session.watches.remove("children " + path);
            }
        } else if (kind == 3 && session.watches.remove("children " + path)) {
            addEvent(session, 900 + path);
        }
        if (kind != 2 && session.watches.remove("children " + parent(path))) {
            addEvent(session, 1200 + parent(path));
        }
    }

    private static void addEvent(Session session, int event) {
        if (session.events.size() < 8) {
            session.events.add(event);
        }
    }
}
