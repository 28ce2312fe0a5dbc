/** Promises 9 to 12, get, exists, children and fact, and the watches that the first three leave. */
public final class ReadTest {
    public static void main(String[] args) {
        Script script = new Script();
        get(script);
        exists(script);
        children(script);
        fact(script);
        dataWatches(script);
        childrenWatches(script);
        watchesAndServers(script);
        script.end();
    }

    private static void get(Script script) {
        script.run("9: the tree of the session's server", """
            open 0 0 50 = 50
            open 1 2 50 = 50
            create 0 1 5 0 = 1
            get 1 1 false = 5
            alone 2 true = 1
            set 0 1 -1 6 = 1
            get 0 1 false = 6
            get 1 1 false = 5
            alone 2 false = 1
            get 1 1 false = 6
            crash 2 = 2
            get 1 1 false ! IllegalStateException
            """);
        script.run("9: refused, in order", """
            get -1 0 false ! IllegalArgumentException
            get 4 0 false ! IllegalArgumentException
            get 0 -1 false ! IllegalArgumentException
            get 0 259 true ! IllegalArgumentException
            get 0 0 false ! IllegalStateException
            open 0 0 50 = 50
            get 0 258 false ! NoSuchElementException
            get 0 0 false = 0
            """);
        script.run("9: a get that throws leaves no watch", """
            open 0 0 50 = 50
            get 0 1 true ! NoSuchElementException
            create 0 1 5 0 = 1
            event 0 ! NoSuchElementException
            """);
    }

    private static void exists(Script script) {
        script.run("10: there or not, by its server's tree", """
            open 0 0 50 = 50
            open 1 1 50 = 50
            exists 0 258 false = false
            alone 1 true = 1
            create 0 1 5 0 = 1
            exists 0 1 false = true
            exists 1 1 false = false
            alone 1 false = 1
            exists 1 1 false = true
            """);
        script.run("10: refused, in order", """
            exists -1 0 false ! IllegalArgumentException
            exists 4 0 false ! IllegalArgumentException
            exists 0 -1 false ! IllegalArgumentException
            exists 0 259 false ! IllegalArgumentException
            exists 0 0 false ! IllegalStateException
            open 0 0 50 = 50
            crash 0 = 0
            exists 0 0 false ! IllegalStateException
            """);
    }

    private static void children(Script script) {
        script.run("11: the sum of the names", """
            open 0 1 50 = 50
            create 0 1 5 0 = 1
            create 0 6 5 0 = 6
            create 0 3 5 1 = 3
            children 0 0 false = 37
            children 0 1 false = 0
            create 0 7 5 0 = 7
            create 0 8 5 0 = 8
            children 0 1 false = 3
            create 0 42 5 0 = 42
            create 0 258 5 0 = 258
            children 0 42 false = 32
            children 0 6 false = 32
            delete 0 7 -1 = 0
            children 0 1 false = 2
            """);
        script.run("11: by its server's tree", """
            open 0 0 50 = 50
            open 1 1 50 = 50
            alone 1 true = 1
            create 0 1 5 0 = 1
            children 0 0 false = 1
            children 1 0 false = 0
            """);
        script.run("11: refused, in order", """
            children -1 0 false ! IllegalArgumentException
            children 4 0 false ! IllegalArgumentException
            children 0 -1 false ! IllegalArgumentException
            children 0 43 false ! IllegalArgumentException
            children 0 42 false ! IllegalStateException
            open 0 0 50 = 50
            children 0 42 false ! NoSuchElementException
            children 0 1 true ! NoSuchElementException
            create 0 1 5 0 = 1
            create 0 7 5 0 = 7
            event 0 ! NoSuchElementException
            crash 0 = 2
            children 0 0 false ! IllegalStateException
            """);
    }

    private static void fact(Script script) {
        script.run("12: version, next and owner", """
            open 3 0 50 = 50
            create 3 1 5 0 = 1
            create 3 1 5 2 = 7
            create 3 1 5 3 = 8
            set 3 1 -1 6 = 1
            fact 3 1 0 = 1
            fact 3 1 1 = 2
            fact 3 1 2 = -1
            fact 3 8 2 = 3
            fact 3 8 0 = 0
            create 3 43 5 0 = 43
            fact 3 43 1 = 0
            fact 3 43 2 = -1
            """);
        script.run("12: by its server's tree", """
            open 0 0 50 = 50
            open 1 1 50 = 50
            create 0 1 5 1 = 1
            alone 1 true = 1
            set 0 1 -1 6 = 1
            fact 0 1 0 = 1
            fact 1 1 0 = 0
            fact 1 1 2 = 0
            """);
        script.run("12: refused, in order", """
            fact -1 0 0 ! IllegalArgumentException
            fact 4 0 0 ! IllegalArgumentException
            fact 0 -1 0 ! IllegalArgumentException
            fact 0 259 0 ! IllegalArgumentException
            fact 0 0 -1 ! IllegalArgumentException
            fact 0 0 3 ! IllegalArgumentException
            fact 0 0 0 ! IllegalStateException
            open 0 0 50 = 50
            fact 0 258 1 ! NoSuchElementException
            fact 0 42 1 ! NoSuchElementException
            crash 0 = 0
            fact 0 0 0 ! IllegalStateException
            """);
    }

    private static void dataWatches(Script script) {
        script.run("9, 10: created, changed and gone, each told once", """
            open 0 0 50 = 50
            exists 0 1 true = false
            exists 0 1 true = false
            create 0 1 5 0 = 1
            set 0 1 -1 6 = 1
            get 0 1 true = 6
            set 0 1 -1 7 = 2
            set 0 1 -1 8 = 3
            exists 0 1 true = true
            delete 0 1 -1 = 3
            create 0 1 5 0 = 1
            event 0 = 301
            event 0 = 601
            event 0 = 901
            event 0 ! NoSuchElementException
            """);
        script.run("9: no watch asked, none told; other paths tell nothing", """
            open 0 0 50 = 50
            create 0 1 5 0 = 1
            get 0 1 false = 5
            exists 0 2 false = false
            get 0 0 true = 0
            exists 0 258 true = false
            set 0 1 -1 6 = 1
            create 0 2 5 0 = 2
            create 0 7 5 0 = 7
            delete 0 7 -1 = 0
            event 0 ! NoSuchElementException
            set 0 0 -1 6 = 1
            event 0 = 600
            """);
        script.run("9: every session is told, with its own events", """
            open 0 0 50 = 50
            open 1 0 50 = 50
            open 2 2 50 = 50
            exists 0 1 true = false
            exists 1 1 true = false
            exists 2 1 true = false
            create 1 1 5 0 = 1
            event 0 = 301
            event 1 = 301
            event 2 = 301
            event 0 ! NoSuchElementException
            event 1 ! NoSuchElementException
            event 2 ! NoSuchElementException
            """);
        script.run("9: a refused or other change tells nothing", """
            open 0 0 50 = 50
            get 0 0 true = 0
            set 0 0 3 6 = -2
            create 0 99 5 0 ! NoSuchElementException
            event 0 ! NoSuchElementException
            """);
    }

    private static void childrenWatches(Script script) {
        script.run("11: a child made or gone, each told once", """
            open 0 0 50 = 50
            children 0 0 true = 0
            create 0 1 5 0 = 1
            create 0 2 5 0 = 2
            children 0 0 true = 3
            set 0 1 -1 6 = 1
            set 0 0 -1 6 = 1
            event 0 = 1200
            event 0 ! NoSuchElementException
            delete 0 1 -1 = 1
            delete 0 2 -1 = 0
            event 0 = 1200
            event 0 ! NoSuchElementException
            """);
        script.run("11: a grandchild is not a child", """
            open 0 0 50 = 50
            create 0 1 5 0 = 1
            children 0 0 true = 1
            create 0 7 5 0 = 7
            event 0 ! NoSuchElementException
            """);
        script.run("11: the node itself goes", """
            open 0 0 50 = 50
            create 0 1 5 0 = 1
            children 0 1 true = 0
            children 0 0 true = 1
            delete 0 1 -1 = 0
            event 0 = 901
            event 0 = 1200
            event 0 ! NoSuchElementException
            create 0 1 5 0 = 1
            create 0 7 5 0 = 7
            event 0 ! NoSuchElementException
            """);
        script.run("11: with a DATA watch that alone tells and both go", """
            open 0 0 50 = 50
            create 0 1 5 0 = 1
            children 0 1 true = 0
            get 0 1 true = 5
            delete 0 1 -1 = 0
            event 0 = 901
            event 0 ! NoSuchElementException
            create 0 1 5 0 = 1
            create 0 7 5 0 = 7
            event 0 ! NoSuchElementException
            """);
        script.run("11: a DATA watch that tells a change leaves the CHILDREN watch", """
            open 0 0 50 = 50
            create 0 1 5 0 = 1
            children 0 1 true = 0
            get 0 1 true = 5
            set 0 1 -1 6 = 1
            create 0 7 5 0 = 7
            event 0 = 601
            event 0 = 1201
            event 0 ! NoSuchElementException
            """);
        script.run("11: a CHILDREN watch that tells leaves the DATA watch", """
            open 0 0 50 = 50
            children 0 0 true = 0
            get 0 0 true = 0
            create 0 1 5 0 = 1
            set 0 0 -1 6 = 1
            event 0 = 1200
            event 0 = 600
            event 0 ! NoSuchElementException
            """);
        script.run("CLOSE tells by rising paths, a node then its parent", """
            open 0 0 50 = 50
            open 1 1 50 = 50
            create 1 2 5 0 = 2
            create 0 13 5 1 = 13
            create 0 4 5 1 = 4
            create 0 1 5 1 = 1
            children 1 0 true = 11
            children 1 2 true = 1
            children 1 4 true = 0
            get 1 4 true = 5
            exists 1 13 true = true
            exists 1 1 true = true
            close 0 = 3
            event 1 = 901
            event 1 = 1200
            event 1 = 904
            event 1 = 913
            event 1 = 1202
            event 1 ! NoSuchElementException
            """);
    }

    private static void watchesAndServers(Script script) {
        script.run("watches tell when the session's own server applies", """
            open 0 0 50 = 50
            open 1 2 50 = 50
            alone 2 true = 1
            exists 1 1 true = false
            create 0 1 5 0 = 1
            set 0 1 -1 6 = 1
            event 1 ! NoSuchElementException
            exists 1 1 false = false
            alone 2 false = 1
            event 1 = 301
            event 1 ! NoSuchElementException
            """);
        script.run("what has no votes is not told yet", """
            open 0 0 50 = 50
            exists 0 1 true = false
            alone 0 true = 1
            create 0 1 5 0 !+ IllegalStateException
            event 0 ! NoSuchElementException
            alone 0 false = 1
            event 0 = 301
            """);
        script.run("what is lost is never told", """
            open 0 0 50 = 50
            exists 0 1 true = false
            alone 0 true = 1
            create 0 1 5 0 !+ IllegalStateException
            elect = 1
            alone 0 false = 1
            event 0 ! NoSuchElementException
            create 0 1 5 0 = 1
            event 0 = 301
            """);
        script.run("a crash takes the watches of its sessions, not the events, not the others'", """
            open 0 0 50 = 50
            open 1 2 50 = 50
            exists 0 1 true = false
            exists 1 1 true = false
            exists 1 2 true = false
            create 0 2 5 0 = 2
            crash 2 = 1
            restart 2 = 1
            create 0 1 5 0 = 1
            event 0 = 301
            event 1 = 302
            event 1 ! NoSuchElementException
            """);
        script.run("a crash takes the watches of session 0 too", """
            open 0 2 50 = 50
            open 3 0 50 = 50
            exists 0 1 true = false
            children 0 0 true = 0
            crash 2 = 0
            restart 2 = 0
            create 3 1 5 0 = 1
            event 0 ! NoSuchElementException
            """);
        script.run("a session ends: what it watched is not told to the next", """
            open 0 0 50 = 50
            open 1 0 1 = 1
            exists 1 1 true = false
            tick 1 = 1
            open 1 0 50 = 51
            create 0 1 5 0 = 1
            event 1 ! NoSuchElementException
            """);
    }
}
