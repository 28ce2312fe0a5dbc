/** The terms that every promise rests on: one run for each edge; the titles are the document's words. */
public final class TermsEdgeTest {
    private static final String FOUR = """
        open 0 0 50 = 50
        open 1 1 50 = 50
        open 2 2 50 = 50
        open 3 0 50 = 50
        """;

    public static void main(String[] args) {
        Script script = new Script();
        everyPath(script);
        everyName(script);
        reaches(script);
        dueSessions(script);
        throwsInOrder(script);
        manyCalls(script);
        twoObjects(script);
        script.end();
    }

    private static void everyPath(Script script) {
        for (int path = 1; path <= 258; path++) {
            int parent = (path - 1) / 6;
            int name = path - 6 * parent - 1;
            script.run("the child of path p with NAME 0 .. 5 is 6 p + NAME + 1", "open 0 0 50\nopen 1 2 50\n"
                + made(parent)
                + "exists 1 " + path + " false = false\n"
                + "children 0 " + parent + " true = 0\n"
                + "exists 0 " + path + " true = false\n"
                + "create 0 " + path + " " + -path + " 1 = " + path + "\n"
                + "children 1 " + parent + " false = " + (1 << name) + "\n"
                + "get 1 " + path + " false = " + -path + "\n"
                + "fact 1 " + path + " 2 = 0\n"
                + "event 0 = " + (300 + path) + "\n"
                + "event 0 = " + (1200 + parent) + "\n"
                + "get 0 " + path + " true = " + -path + "\n"
                + "set 1 " + path + " 0 7 = 1\n"
                + "event 0 = " + (600 + path) + "\n"
                + "get 1 " + path + " true = 7\n"
                + "close 0 = 1\n"
                + "event 1 = " + (900 + path) + "\n"
                + "exists 1 " + path + " false = false\n");
        }
    }

    /** Rows that make the node of a path and those above it. */
    private static String made(int path) {
        return path == 0 ? "" : made((path - 1) / 6) + "create 0 " + path + " 5 0 = " + path + "\n";
    }

    private static void everyName(Script script) {
        for (int parent = 0; parent <= 42; parent++) {
            StringBuilder rows = new StringBuilder("open 0 0 50\n" + made(parent));
            for (int name = 0; name <= 5; name++) {
                int path = 6 * parent + name + 1;
                rows.append("fact 0 ").append(parent).append(" 1 = ").append(name).append("\n");
                rows.append("create 0 ").append(parent).append(" 5 2 = ").append(path).append("\n");
                if (name == 0) {
                    rows.append("delete 0 ").append(parent).append(" -1 ! ")
                        .append(parent == 0 ? "IllegalArgumentException" : "UnsupportedOperationException")
                        .append("\n");
                }
            }
            rows.append("fact 0 ").append(parent).append(" 1 = 6\n");
            rows.append("children 0 ").append(parent).append(" false = 63\n");
            rows.append("create 0 ").append(parent).append(" 5 2 ! UnsupportedOperationException\n");
            script.run("only paths below 43 have children, each six NAMES, and NEXT ends at 6", rows.toString());
        }
    }

    private static void reaches(Script script) {
        script.run("REACHES: its server is the LEADER and UP, though ALONE", FOUR + """
            alone 0 true = 1
            create 0 1 5 0 !+ IllegalStateException
            state 0 0 = 1
            """);
        script.run("REACHES: its server is not LINKED, nor the LEADER", FOUR + """
            alone 1 true = 1
            create 1 1 5 0 ! IllegalStateException
            alone 1 false = 1
            alone 0 true = 1
            create 1 1 5 0 ! IllegalStateException
            state 0 0 = 0
            """);
        script.run("REACHES: its server was the LEADER", FOUR + """
            alone 0 true = 1
            elect = 1
            create 0 1 5 0 ! IllegalStateException
            alone 0 false = 1
            create 0 1 5 0 = 1
            """);
        script.run("LINKED: UP and not ALONE: each of the two is needed", """
            alone 1 true = 1
            crash 1 = 0
            alone 1 false = 1
            state 1 3 = 0
            alone 1 true = 1
            restart 1 = 0
            state 1 3 = 0
            alone 1 false = 1
            state 1 3 = 1
            """);
    }

    private static void dueSessions(Script script) {
        script.run("a session that is DUE owns its nodes until there is QUORUM", FOUR + """
            create 1 1 5 1 = 1
            create 2 2 5 1 = 2
            alone 0 true = 1
            tick 20 = 0
            tick 20 = 0
            tick 9 = 0
            tick 1 = 4
            state 0 4 = 3
            state 0 0 = 2
            alone 0 false = 1
            state 0 4 = 1
            state 0 0 = 4
            count 5 = 0
            count 6 = 0
            """);
        script.run("a DUE session whose nodes another leader does not have: no CLOSE", """
            open 0 0 1 = 1
            alone 0 true = 1
            create 0 1 5 1 !+ IllegalStateException
            tick 1 = 1
            count 4 = 2
            elect = 1
            count 4 = 0
            state 1 0 = 0
            alone 0 false = 1
            state 0 0 = 0
            """);
        script.run("a session opened again does not own what it owned before", """
            open 0 0 1 = 1
            open 1 1 50 = 50
            create 0 1 5 1 = 1
            tick 1 = 1
            open 0 0 50 = 51
            create 1 1 5 0 = 1
            close 0 = 0
            exists 1 1 false = true
            """);
        script.run("CLOSE: a node of this OWNER alone goes; another's stays", FOUR + """
            create 0 1 5 1 = 1
            create 1 2 5 1 = 2
            create 2 3 5 1 = 3
            create 3 4 5 1 = 4
            create 3 5 5 0 = 5
            close 0 = 1
            children 1 0 false = 30
            close 3 = 1
            children 1 0 false = 22
            close 2 = 1
            children 1 0 false = 18
            close 1 = 1
            state 1 4 = 2
            """);
    }

    private static void throwsInOrder(Script script) {
        script.run("IllegalArgumentException before IllegalStateException", """
            crash 0 = 0
            open 0 0 51 ! IllegalArgumentException
            open 0 3 5 ! IllegalArgumentException
            open 4 0 5 ! IllegalArgumentException
            close 4 ! IllegalArgumentException
            ping 4 ! IllegalArgumentException
            move 4 0 ! IllegalArgumentException
            move 0 3 ! IllegalArgumentException
            create 4 1 5 0 ! IllegalArgumentException
            set 4 0 0 5 ! IllegalArgumentException
            delete 4 1 0 ! IllegalArgumentException
            get 4 0 true ! IllegalArgumentException
            exists 4 0 true ! IllegalArgumentException
            children 4 0 true ! IllegalArgumentException
            fact 4 0 0 ! IllegalArgumentException
            event 4 ! IllegalArgumentException
            crash 3 ! IllegalArgumentException
            restart 3 ! IllegalArgumentException
            alone 3 true ! IllegalArgumentException
            """);
        script.run("IllegalStateException before NoSuchElementException", FOUR + """
            crash 1 = 0
            create 1 7 5 0 ! IllegalStateException
            set 1 7 -1 5 ! IllegalStateException
            delete 1 7 -1 ! IllegalStateException
            get 1 7 false ! IllegalStateException
            children 1 7 false ! IllegalStateException
            fact 1 7 0 ! IllegalStateException
            close 3 = 0
            event 3 ! IllegalStateException
            """);
        script.run("IllegalStateException before the others", FOUR + """
            create 0 1 5 1 = 1
            create 0 2 5 0 = 2
            create 0 13 5 0 = 13
            alone 1 true = 1
            create 1 7 5 0 ! IllegalStateException
            create 1 2 5 0 ! IllegalStateException
            delete 1 2 -1 ! IllegalStateException
            set 1 2 9 5 ! IllegalStateException
            delete 1 2 9 ! IllegalStateException
            """);
    }

    private static void manyCalls(Script script) {
        StringBuilder rows = new StringBuilder();
        int time = 0;
        for (int round = 0; round < 128; round++) {
            time += 20;
            rows.append("open 3 2 20 = ").append(time).append("\n");
            rows.append("exists 3 258 true = false\n");
            rows.append("tick 20 = 1\n");
            rows.append("count 0 = ").append(time).append("\n");
        }
        script.run("at most 512 calls: the last as the first", rows.toString());
        StringBuilder epochs = new StringBuilder();
        for (int epoch = 2; epoch < 257; epoch++) {
            epochs.append("elect = 0\ncount 2 = ").append(epoch).append("\n");
        }
        script.run("at most 512 calls: EPOCH rises all along", epochs + "state 2 5 = 256\n");
    }

    private static void twoObjects(Script script) {
        script.run("one object has been used up", FOUR + Script.sets(1, 60) + """
            tick 20 = 0
            crash 0 = 60
            crash 1 = 60
            """);
        script.run("another one is new all the same", """
            count 0 = 0
            count 1 = 0
            count 2 = 1
            count 4 = 0
            state 0 0 = 0
            state 0 2 = 1
            state 1 2 = 1
            open 0 0 50 = 50
            get 0 0 false = 0
            set 0 0 0 5 = 1
            """);
    }
}
