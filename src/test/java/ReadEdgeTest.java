/** Promises 9 to 12: one run for each sentence that names an edge; the titles are the document's words. */
public final class ReadEdgeTest {
    private static final String FOUR = """
        open 0 0 50 = 50
        open 1 1 50 = 50
        open 2 2 50 = 50
        open 3 0 50 = 50
        """;
    /** Nodes at the last path, and at the last one that may have children. */
    private static final String NODES = FOUR + """
        create 0 6 5 0 = 6
        create 0 42 6 0 = 42
        create 0 258 7 0 = 258
        """;

    public static void main(String[] args) {
        Script script = new Script();
        ranges(script);
        notConnected(script);
        ofItsServer(script);
        get(script);
        exists(script);
        children(script);
        fact(script);
        dataWatches(script);
        childrenWatches(script);
        closeTells(script);
        watchesGo(script);
        script.end();
    }

    private static void ranges(Script script) {
        script.range("9: session 0 .. 3", FOUR, "get # 0 false", 0, 3);
        script.range("9: a path 0 .. 258", NODES, "get 0 # false", 0, 258);
        script.range("9: a path 0 .. 258, with a watch", NODES, "get 0 # true", 0, 258);
        script.range("10: session 0 .. 3", FOUR, "exists # 0 false", 0, 3);
        script.range("10: a path 0 .. 258", FOUR, "exists 0 # false", 0, 258);
        script.range("10: a path 0 .. 258, with a watch", FOUR, "exists 0 # true", 0, 258);
        script.range("11: session 0 .. 3", FOUR, "children # 0 false", 0, 3);
        script.range("11: path 0 .. 42", NODES, "children 0 # false", 0, 42);
        script.range("11: path 0 .. 42, with a watch", NODES, "children 0 # true", 0, 42);
        script.run("11: path 0 .. 42: not 43, though its node is there", FOUR + """
            create 0 1 5 0 = 1
            create 0 7 5 0 = 7
            create 0 43 5 0 = 43
            children 0 43 false ! IllegalArgumentException
            """);
        script.range("12: session 0 .. 3", FOUR, "fact # 0 0", 0, 3);
        script.range("12: a path 0 .. 258", NODES, "fact 0 # 0", 0, 258);
        script.range("12: what 0 .. 2", NODES, "fact 0 0 #", 0, 2);
        script.range("12: what 0 .. 2, at the last path", NODES, "fact 0 258 #", 0, 2);
        script.run("9 to 12: a number out of range goes before a node that is not there", FOUR + """
            fact 0 1 -1 ! IllegalArgumentException
            fact 0 1 3 ! IllegalArgumentException
            get 0 259 false ! IllegalArgumentException
            children 0 43 false ! IllegalArgumentException
            """);
    }

    private static void notConnected(Script script) {
        String reads = """
            get 1 0 false ! IllegalStateException
            get 1 0 true ! IllegalStateException
            get 1 1 true ! IllegalStateException
            exists 1 0 false ! IllegalStateException
            exists 1 1 true ! IllegalStateException
            children 1 0 false ! IllegalStateException
            children 1 1 true ! IllegalStateException
            fact 1 0 0 ! IllegalStateException
            fact 1 1 2 ! IllegalStateException
            """;
        script.run("9 to 12: a session that is not CONNECTED: never opened", reads);
        script.run("9 to 12: a session that is not CONNECTED: closed", FOUR + "close 1 = 0\n" + reads);
        script.run("9 to 12: a session that is not CONNECTED: its server is not UP", FOUR + "crash 1 = 0\n" + reads);
        script.run("9 to 12: a session that is not CONNECTED: DUE", """
            open 1 1 1 = 1
            alone 0 true = 1
            tick 1 = 1
            count 5 = 2
            """ + reads);
        script.run("9 to 12: a number out of range goes before that", FOUR + """
            crash 1 = 0
            get 1 259 false ! IllegalArgumentException
            exists 1 259 false ! IllegalArgumentException
            children 1 43 false ! IllegalArgumentException
            fact 1 259 0 ! IllegalArgumentException
            fact 1 0 3 ! IllegalArgumentException
            """);
    }

    private static void ofItsServer(Script script) {
        String old = """
            get 1 258 false = 7
            exists 1 258 false = true
            exists 1 1 false = false
            children 1 42 false = 32
            children 1 0 false = 32
            fact 1 6 0 = 0
            get 1 258 true = 7
            exists 1 1 true = false
            children 1 42 true = 32
            """;
        script.run("9 to 12: in the TREE of the session's server: it is ALONE and behind", NODES + """
            alone 1 true = 1
            delete 0 258 -1 = 0
            create 0 1 5 0 = 1
            set 0 6 -1 8 = 1
            """ + old);
        script.run("9 to 12: in the TREE of the session's server: it was not UP, and there is no LEADER", NODES + """
            crash 1 = 3
            delete 0 258 -1 = 0
            create 0 1 5 0 = 1
            set 0 6 -1 8 = 1
            crash 0 = 6
            restart 1 = 3
            """ + old);
        script.run("9 to 12: in the TREE of the session's server: what the LEADER has not APPLIED", NODES + """
            move 1 0 = 1
            alone 0 true = 1
            delete 0 258 -1 !+ IllegalStateException
            create 0 1 5 0 !+ IllegalStateException
            set 0 6 -1 8 !+ IllegalStateException
            """ + old);
    }

    private static void get(Script script) {
        script.run("9: the DATA of a node, at the first and the last path", NODES + """
            get 0 0 false = 0
            get 0 258 false = 7
            """);
        script.run("9: it is not there: NoSuchElementException, and no watch", FOUR + """
            get 0 1 false ! NoSuchElementException
            get 0 1 true ! NoSuchElementException
            get 0 258 true ! NoSuchElementException
            create 0 1 5 0 = 1
            event 0 ! NoSuchElementException
            delete 0 1 -1 = 0
            get 0 1 false ! NoSuchElementException
            """);
        script.run("9: watch: a DATA watch on it; else none", NODES + """
            get 0 258 false = 7
            set 0 258 -1 8 = 1
            event 0 ! NoSuchElementException
            get 0 258 true = 8
            set 0 258 -1 9 = 2
            event 0 = 858
            """);
    }

    private static void exists(Script script) {
        script.run("10: whether a node is in that TREE, at the edges", NODES + """
            exists 0 0 false = true
            exists 0 258 false = true
            exists 0 257 false = false
            exists 0 1 false = false
            delete 0 258 -1 = 0
            exists 0 258 false = false
            """);
        script.run("10: watch: also if it is not there", NODES + """
            exists 0 1 true = false
            exists 0 257 true = false
            create 1 1 5 0 = 1
            create 1 257 5 0 = 257
            event 0 = 301
            event 0 = 557
            """);
        script.run("10: watch: a DATA watch, none if not asked for", NODES + """
            exists 0 258 false = true
            exists 0 1 false = false
            set 0 258 -1 8 = 1
            create 0 1 5 0 = 1
            event 0 ! NoSuchElementException
            exists 0 258 true = true
            set 0 258 -1 8 = 2
            event 0 = 858
            """);
    }

    private static void children(Script script) {
        script.run("11: 2 to the power of their NAMES: none, the first, the last, all", FOUR + """
            children 0 0 false = 0
            create 0 1 5 0 = 1
            children 0 0 false = 1
            create 0 6 5 0 = 6
            children 0 0 false = 33
            create 0 2 5 1 = 2
            create 0 3 5 0 = 3
            create 0 4 5 0 = 4
            create 0 5 5 0 = 5
            children 0 0 false = 63
            delete 0 1 -1 = 0
            children 0 0 false = 62
            """);
        script.run("11: the last path that may have children", NODES + """
            children 0 42 false = 32
            create 0 253 5 0 = 253
            children 0 42 false = 33
            """);
        script.run("11: not those of the next path", FOUR + """
            create 0 1 5 0 = 1
            create 0 2 5 0 = 2
            create 0 12 5 0 = 12
            create 0 13 5 0 = 13
            children 0 1 false = 32
            children 0 2 false = 1
            """);
        script.run("11: it is not there: NoSuchElementException, and no watch", FOUR + """
            children 0 1 false ! NoSuchElementException
            children 0 1 true ! NoSuchElementException
            children 0 42 true ! NoSuchElementException
            create 0 1 5 0 = 1
            create 0 7 5 0 = 7
            delete 0 7 -1 = 0
            delete 0 1 -1 = 0
            event 0 ! NoSuchElementException
            children 0 1 false ! NoSuchElementException
            """);
        script.run("11: watch: a CHILDREN watch on it; else none", NODES + """
            children 0 42 false = 32
            create 0 253 5 0 = 253
            event 0 ! NoSuchElementException
            children 0 42 true = 33
            create 0 254 5 0 = 254
            event 0 = 1242
            """);
    }

    private static void fact(Script script) {
        script.run("12: what 0 VERSION", NODES + """
            fact 0 258 0 = 0
            set 0 258 -1 8 = 1
            fact 0 258 0 = 1
            fact 2 258 0 = 1
            """);
        script.run("12: what 1 NEXT, 0 where there are no children", NODES + """
            fact 0 42 1 = 0
            create 0 42 5 2 = 253
            fact 0 42 1 = 1
            fact 0 258 1 = 0
            fact 0 253 1 = 0
            """);
        script.run("12: what 1 NEXT of the first path without children", FOUR + """
            create 0 1 5 0 = 1
            create 0 7 5 0 = 7
            create 0 43 5 0 = 43
            fact 0 43 1 = 0
            """);
        script.run("12: what 2 OWNER, the first session, the last, -1 for none", FOUR + """
            fact 0 0 2 = -1
            create 0 1 5 1 = 1
            create 3 2 5 1 = 2
            create 3 3 5 0 = 3
            fact 1 1 2 = 0
            fact 1 2 2 = 3
            fact 1 3 2 = -1
            """);
        script.run("12: it is not there: NoSuchElementException", FOUR + """
            fact 0 1 0 ! NoSuchElementException
            fact 0 42 1 ! NoSuchElementException
            fact 0 43 1 ! NoSuchElementException
            fact 0 258 2 ! NoSuchElementException
            create 0 1 5 1 = 1
            delete 0 1 -1 = 0
            fact 0 1 0 ! NoSuchElementException
            fact 0 1 1 ! NoSuchElementException
            fact 0 1 2 ! NoSuchElementException
            """);
    }

    private static void dataWatches(Script script) {
        script.run("9, 10: each there or not: asked for twice it tells once", FOUR + """
            get 0 0 true = 0
            exists 0 0 true = true
            get 0 0 true = 0
            set 0 0 -1 5 = 1
            event 0 = 600
            event 0 ! NoSuchElementException
            set 0 0 -1 5 = 2
            event 0 ! NoSuchElementException
            """);
        script.run("9, 10: DATA tells 1 CREATED", NODES + """
            exists 0 257 true = false
            create 0 42 5 2 = 253
            event 0 ! NoSuchElementException
            create 0 257 5 0 = 257
            event 0 = 557
            """);
        script.run("9, 10: DATA tells 2 CHANGED, also of the root", FOUR + """
            get 0 0 true = 0
            create 0 1 5 0 = 1
            event 0 ! NoSuchElementException
            set 0 0 -1 5 = 1
            event 0 = 600
            """);
        script.run("9, 10: DATA tells 3 GONE", NODES + """
            get 0 258 true = 7
            delete 0 258 -1 = 0
            event 0 = 1158
            create 0 258 5 0 = 258
            event 0 ! NoSuchElementException
            """);
        script.run("9, 10: DATA tells of its own path alone", NODES + """
            get 0 42 true = 6
            set 0 6 -1 8 = 1
            set 0 258 -1 8 = 1
            delete 0 258 -1 = 1
            create 0 253 5 0 = 253
            event 0 ! NoSuchElementException
            """);
        script.run("9, 10: answers OTHER, or throws: nothing is told", FOUR + """
            get 0 0 true = 0
            children 0 0 true = 0
            exists 0 1 true = false
            set 0 0 5 6 = -2
            create 0 7 5 0 ! NoSuchElementException
            delete 0 1 -1 ! NoSuchElementException
            alone 0 true = 1
            create 0 1 5 0 !+ IllegalStateException
            event 0 ! NoSuchElementException
            """);
        script.run("9, 10: each session at this server", FOUR + """
            exists 0 1 true = false
            exists 3 1 true = false
            exists 1 1 true = false
            alone 1 true = 1
            create 2 1 5 0 = 1
            event 0 = 301
            event 3 = 301
            event 1 ! NoSuchElementException
            alone 1 false = 1
            event 1 = 301
            event 2 ! NoSuchElementException
            """);
    }

    private static void childrenWatches(Script script) {
        script.run("11: CHILDREN: on its parent's path for one that is made: 4, told once", FOUR + """
            children 0 0 true = 0
            create 0 6 5 0 = 6
            create 0 1 5 0 = 1
            event 0 = 1200
            event 0 ! NoSuchElementException
            """);
        script.run("11: CHILDREN: on its parent's path for one that goes: 4, told once", NODES + """
            create 0 253 5 0 = 253
            children 0 42 true = 33
            delete 0 258 -1 = 0
            delete 0 253 -1 = 0
            event 0 = 1242
            event 0 ! NoSuchElementException
            """);
        script.run("11: CHILDREN: not for one that is set, nor below its children", NODES + """
            children 0 6 true = 32
            set 0 42 -1 8 = 1
            set 0 6 -1 8 = 1
            delete 0 258 -1 = 0
            create 0 253 5 0 = 253
            event 0 ! NoSuchElementException
            create 0 37 5 0 = 37
            event 0 = 1206
            """);
        script.run("11: CHILDREN: on the path of a node that goes: 3", FOUR + """
            create 0 1 5 0 = 1
            children 0 1 true = 0
            delete 0 1 -1 = 0
            event 0 = 901
            event 0 ! NoSuchElementException
            """);
        script.run("11: it has told and is gone: not told of the node made again", FOUR + """
            create 0 1 5 0 = 1
            children 0 1 true = 0
            delete 0 1 -1 = 0
            create 0 1 5 0 = 1
            create 0 7 5 0 = 7
            event 0 = 901
            event 0 ! NoSuchElementException
            """);
        script.run("11: but if its DATA tells at the same time, that alone tells and both go", FOUR + """
            create 0 1 5 0 = 1
            children 0 1 true = 0
            get 0 1 true = 5
            delete 0 1 -1 = 0
            event 0 = 901
            event 0 ! NoSuchElementException
            create 0 1 5 0 = 1
            create 0 7 5 0 = 7
            set 0 1 -1 6 = 1
            event 0 ! NoSuchElementException
            """);
        script.run("11: DATA that tells CHANGED leaves CHILDREN there", FOUR + """
            children 0 0 true = 0
            get 0 0 true = 0
            set 0 0 -1 6 = 1
            create 0 1 5 0 = 1
            event 0 = 600
            event 0 = 1200
            event 0 ! NoSuchElementException
            """);
        script.run("11: CHILDREN that tells 4 leaves DATA there", FOUR + """
            children 0 0 true = 0
            get 0 0 true = 0
            create 0 1 5 0 = 1
            set 0 0 -1 6 = 1
            event 0 = 1200
            event 0 = 600
            event 0 ! NoSuchElementException
            """);
        script.run("11: a node, then its parent", FOUR + """
            children 0 0 true = 0
            exists 0 1 true = false
            create 0 1 5 0 = 1
            event 0 = 301
            event 0 = 1200
            children 0 0 true = 1
            children 0 1 true = 0
            delete 0 1 -1 = 0
            event 0 = 901
            event 0 = 1200
            event 0 ! NoSuchElementException
            """);
    }

    private static void closeTells(Script script) {
        script.run("CLOSE: by rising paths, a node, then its parent", NODES + """
            create 3 254 5 1 = 254
            create 3 253 5 1 = 253
            create 3 2 5 1 = 2
            create 3 1 5 1 = 1
            create 1 3 5 1 = 3
            exists 0 1 true = true
            exists 0 2 true = true
            exists 0 3 true = true
            children 0 0 true = 39
            children 0 42 true = 35
            exists 0 253 true = true
            exists 0 254 true = true
            close 3 = 4
            event 0 = 901
            event 0 = 1200
            event 0 = 902
            event 0 = 1153
            event 0 = 1242
            event 0 = 1154
            event 0 ! NoSuchElementException
            """);
        script.run("CLOSE: a CHILDREN watch on an owned node tells 3", FOUR + """
            create 3 1 5 1 = 1
            create 3 2 5 1 = 2
            children 0 1 true = 0
            children 0 2 true = 0
            get 0 2 true = 5
            close 3 = 2
            event 0 = 901
            event 0 = 902
            event 0 ! NoSuchElementException
            """);
        script.run("CLOSE: the first and the last path, of the first and the last session", NODES + """
            create 0 1 5 1 = 1
            create 3 257 5 1 = 257
            create 0 256 5 1 = 256
            exists 1 256 true = true
            exists 1 257 true = true
            close 0 = 2
            event 1 = 1156
            event 1 ! NoSuchElementException
            close 3 = 1
            event 1 = 1157
            state 1 4 = 4
            """);
    }

    private static void watchesGo(Script script) {
        script.run("watches go when its server crashes, events stay", FOUR + """
            exists 1 1 true = false
            exists 1 2 true = false
            children 1 0 true = 0
            exists 2 2 true = false
            create 0 1 5 0 = 1
            crash 1 = 1
            create 0 2 5 0 = 2
            restart 1 = 2
            create 0 3 5 0 = 3
            event 1 = 301
            event 1 = 1200
            event 1 ! NoSuchElementException
            event 2 = 302
            """);
        script.run("watches go when its server crashes: of the first and the last session", FOUR + """
            exists 0 1 true = false
            exists 3 1 true = false
            exists 1 1 true = false
            crash 0 = 0
            restart 0 = 0
            elect = 0
            create 0 1 5 0 = 1
            event 0 ! NoSuchElementException
            event 3 ! NoSuchElementException
            event 1 = 301
            """);
        script.run("watches stay while its server is ALONE, or the LEADER crashes", FOUR + """
            exists 1 1 true = false
            exists 2 1 true = false
            alone 1 true = 1
            alone 1 false = 1
            crash 0 = 0
            elect = 1
            create 1 1 5 0 = 1
            event 1 = 301
            event 2 = 301
            """);
        script.run("watches of a session that moved away before the crash", FOUR + """
            move 1 2 = 1
            exists 1 1 true = false
            crash 1 = 0
            create 0 1 5 0 = 1
            event 1 = 301
            """);
        script.run("watches and events go when it EXPIRES", """
            open 0 0 50 = 50
            open 1 0 1 = 1
            exists 1 1 true = false
            exists 1 2 true = false
            create 0 1 5 0 = 1
            tick 1 = 1
            open 1 0 9 = 10
            create 0 2 5 0 = 2
            event 1 ! NoSuchElementException
            """);
    }
}
