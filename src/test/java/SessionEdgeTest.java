/** Promises 1 to 5 and 13: one run for each sentence that names an edge; the titles are the document's words. */
public final class SessionEdgeTest {
    private static final String FOUR = """
        open 0 0 50 = 50
        open 1 1 50 = 50
        open 2 2 50 = 50
        open 3 0 50 = 50
        """;

    public static void main(String[] args) {
        Script script = new Script();
        newObject(script);
        open(script);
        openRefused(script);
        close(script);
        closeRefused(script);
        ping(script);
        move(script);
        event(script);
        eventsFull(script);
        script.end();
    }

    private static void newObject(Script script) {
        script.run("1: three servers", """
            state 0 2 = 1
            state 1 2 = 1
            state 2 2 = 1
            state 3 2 ! IllegalArgumentException
            """);
        script.run("1: empty TREES: a TREE has the root", """
            state 0 4 = 1
            state 1 4 = 1
            state 2 4 = 1
            """ + FOUR + """
            exists 0 0 false = true
            exists 1 0 false = true
            exists 2 0 false = true
            children 0 0 false = 0
            children 1 0 false = 0
            children 2 0 false = 0
            """);
        script.run("1: the root has DATA 0 and no OWNER; a VERSION 0, a NEXT 0 at first", FOUR + """
            get 2 0 false = 0
            fact 2 0 2 = -1
            fact 2 0 0 = 0
            fact 2 0 1 = 0
            create 0 0 5 2 = 1
            set 0 0 0 7 = 1
            """);
        script.run("1: each has a LOG, empty at first, and has APPLIED none of it", """
            state 0 0 = 0
            state 1 0 = 0
            state 2 0 = 0
            state 0 1 = 0
            state 1 1 = 0
            state 2 1 = 0
            crash 2 = 0
            restart 2 = 0
            """);
        script.run("1: at first none is ALONE", """
            alone 0 false = 0
            alone 1 false = 0
            alone 2 false = 0
            """);
        script.run("1: a LEADER, at first server 0; EPOCH is 1, and so is each AGE; TIME is 0", """
            count 1 = 0
            count 2 = 1
            state 0 5 = 1
            state 1 5 = 1
            state 2 5 = 1
            count 0 = 0
            """);
        script.run("1: sessions are not OPEN at first", """
            count 4 = 0
            count 5 = 0
            count 6 = 0
            count 7 = 0
            event 0 ! IllegalStateException
            event 3 ! IllegalStateException
            """);
    }

    private static void open(Script script) {
        script.range("2: session 0 .. 3", "", "open # 0 10", 0, 3);
        script.range("2: server 0 .. 2", "", "open 0 # 10", 0, 2);
        script.range("2: timeout 1 .. 50", "", "open 0 0 #", 1, 50);
        script.run("2: the least timeout", """
            open 0 0 1 = 1
            tick 0 = 0
            count 4 = 1
            tick 1 = 1
            """);
        script.run("2: the greatest timeout", """
            open 0 0 50 = 50
            tick 20 = 0
            tick 20 = 0
            tick 9 = 0
            count 4 = 1
            tick 1 = 1
            """);
        script.run("2: it is OPEN at this server", """
            open 0 2 50 = 50
            count 4 = 1
            move 0 0 = 2
            """);
        script.run("2: HEARD now, not at the start of TIME", """
            tick 20 = 0
            open 0 0 3 = 23
            tick 2 = 0
            tick 1 = 1
            """);
        script.run("2: answers TIME plus timeout", """
            tick 20 = 0
            tick 20 = 0
            open 0 0 50 = 90
            open 1 0 1 = 41
            """);
        script.run("2: two LINKED servers are enough", """
            crash 2 = 0
            open 0 0 10 = 10
            open 1 1 10 = 10
            """);
    }

    private static void openRefused(Script script) {
        script.run("2: the session is OPEN", """
            open 0 0 10 = 10
            open 0 0 10 ! IllegalStateException
            open 0 1 20 ! IllegalStateException
            open 1 0 10 = 10
            """);
        script.run("2: the session is DUE", """
            open 0 0 1 = 1
            alone 0 true = 1
            tick 1 = 1
            count 4 = 2
            open 0 0 10 ! IllegalStateException
            count 4 = 2
            alone 0 false = 1
            open 0 0 10 = 11
            """);
        script.run("2: the server is not LINKED: not UP", """
            crash 1 = 0
            open 0 1 10 ! IllegalStateException
            open 0 2 10 = 10
            """);
        script.run("2: the server is not LINKED: ALONE", """
            alone 1 true = 1
            open 0 1 10 ! IllegalStateException
            open 0 2 10 = 10
            """);
        script.run("2: the server is not LINKED: the LEADER is ALONE", """
            alone 0 true = 1
            open 0 0 10 ! IllegalStateException
            open 0 1 10 ! IllegalStateException
            """);
        script.run("2: the server is not LINKED: no LEADER", """
            crash 0 = 0
            open 0 1 10 ! IllegalStateException
            open 0 2 10 ! IllegalStateException
            """);
        script.run("2: there is no QUORUM", """
            alone 1 true = 1
            crash 2 = 0
            state 0 3 = 1
            open 0 0 10 ! IllegalStateException
            alone 1 false = 1
            open 0 0 10 = 10
            """);
    }

    private static void close(Script script) {
        script.range("3: session 0 .. 3", FOUR, "close #", 0, 3);
        script.run("3: it is OPEN no more, and with QUORUM not DUE", FOUR + """
            close 3 = 0
            count 7 = 0
            count 4 = 1
            close 3 ! IllegalStateException
            open 3 2 5 = 5
            """);
        script.run("3: answers how many nodes it owns before: none, though others own some", FOUR + """
            create 0 1 5 0 = 1
            create 1 2 5 1 = 2
            close 0 = 0
            exists 1 1 false = true
            exists 1 2 false = true
            """);
        script.run("3: answers how many nodes it owns before: at the first and the last path", FOUR + """
            create 0 6 5 0 = 6
            create 0 42 5 0 = 42
            create 3 258 5 1 = 258
            create 3 1 5 1 = 1
            close 3 = 2
            state 0 4 = 3
            exists 0 1 false = false
            exists 0 258 false = false
            """);
        script.run("3: nodes of PLANNED: those deleted before do not count", FOUR + """
            create 0 1 5 1 = 1
            create 0 2 5 1 = 2
            delete 1 1 -1 = 0
            close 0 = 1
            """);
        script.run("3: its watches and events go", FOUR + """
            exists 0 1 true = false
            exists 0 2 true = false
            children 0 0 true = 0
            create 1 1 5 0 = 1
            ping 0 = 2
            close 0 = 0
            open 0 0 50 = 50
            ping 0 = 0
            create 1 2 5 0 = 2
            ping 0 = 0
            """);
        script.run("3: if PLANNED has no nodes with this OWNER no CLOSE is PROPOSED", FOUR + """
            close 0 = 0
            state 0 0 = 0
            create 1 1 5 1 = 1
            close 1 = 1
            state 0 0 = 2
            """);
    }

    private static void closeRefused(Script script) {
        script.run("3: a session that does not REACH: its server is ALONE", FOUR + """
            alone 1 true = 1
            close 1 ! IllegalStateException
            close 2 = 0
            """);
        script.run("3: a session that does not REACH: its server is not UP", FOUR + """
            crash 1 = 0
            close 1 ! IllegalStateException
            close 2 = 0
            """);
        script.run("3: a session that does not REACH: no LEADER", FOUR + """
            crash 0 = 0
            close 1 ! IllegalStateException
            close 0 ! IllegalStateException
            """);
        script.run("3: there is no QUORUM, though it REACHES", FOUR + """
            crash 1 = 0
            crash 2 = 0
            close 0 ! IllegalStateException
            """);
        script.run("3: there is no QUORUM, though it REACHES a LEADER that is ALONE", FOUR + """
            alone 0 true = 1
            close 0 ! IllegalStateException
            """);
        script.run("3: so if it is not OPEN: never opened", """
            close 0 ! IllegalStateException
            close 3 ! IllegalStateException
            """);
        script.run("3: so if it is not OPEN: DUE", FOUR + """
            alone 0 true = 1
            tick 20 = 0
            tick 20 = 0
            tick 10 = 4
            count 4 = 2
            close 0 ! IllegalStateException
            """);
    }

    private static void ping(Script script) {
        script.range("4: session 0 .. 3", FOUR, "ping #", 0, 3);
        script.run("4: it is HEARD now: at the last moment", """
            open 0 0 5 = 5
            tick 4 = 0
            ping 0 = 0
            tick 4 = 0
            tick 1 = 1
            """);
        script.run("4: answers how many events it has: none, one, eight and no more", FOUR + eightEvents() + """
            ping 0 = 8
            ping 1 = 0
            event 0
            ping 0 = 7
            """);
        script.run("4: it does not REACH: not OPEN", """
            ping 0 ! IllegalStateException
            """);
        script.run("4: it does not REACH: its server is ALONE; it is not HEARD", """
            open 0 1 5 = 5
            alone 1 true = 1
            tick 3 = 0
            ping 0 ! IllegalStateException
            tick 2 = 1
            """);
        script.run("4: it does not REACH: its server is not UP", """
            open 0 1 5 = 5
            crash 1 = 0
            ping 0 ! IllegalStateException
            """);
        script.run("4: it does not REACH: no LEADER", """
            open 0 1 5 = 5
            crash 0 = 0
            ping 0 ! IllegalStateException
            elect = 1
            ping 0 = 0
            """);
        script.run("4: there is no QUORUM, though it REACHES; it is not HEARD", """
            open 0 0 5 = 5
            crash 1 = 0
            alone 2 true = 1
            tick 3 = 0
            ping 0 ! IllegalStateException
            tick 2 = 1
            """);
    }

    private static void move(Script script) {
        script.range("5: session 0 .. 3", FOUR, "move # 1", 0, 3);
        script.range("5: server 0 .. 2", FOUR, "move 0 #", 0, 2);
        script.run("5: an OPEN session, else IllegalStateException", """
            move 0 0 ! IllegalStateException
            open 0 0 1 = 1
            move 0 0 = 0
            alone 0 true = 1
            tick 1 = 1
            count 4 = 2
            move 0 0 ! IllegalStateException
            """);
        script.run("5: the server is not UP; it stays where it was", """
            open 0 1 50 = 50
            crash 2 = 0
            move 0 2 ! IllegalStateException
            crash 1 = 0
            move 0 1 ! IllegalStateException
            move 0 0 = 1
            """);
        script.run("5: the only one here: its own server is not UP", """
            open 0 1 50 = 50
            crash 1 = 0
            move 0 2 = 1
            """);
        script.run("5: the only one here: the server is ALONE, there is no QUORUM", """
            open 0 0 50 = 50
            alone 2 true = 1
            crash 1 = 0
            count 3 = 0
            move 0 2 = 0
            exists 0 0 false = true
            """);
        script.run("5: the only one here: no LEADER", """
            open 0 0 50 = 50
            crash 0 = 0
            move 0 1 = 0
            move 0 2 = 1
            """);
        script.run("5: answers its server before, also the same", """
            open 0 0 50 = 50
            move 0 0 = 0
            move 0 2 = 0
            move 0 2 = 2
            """);
        script.run("5: its watches go when it moves, its events stay", FOUR + """
            exists 0 1 true = false
            exists 0 2 true = false
            create 1 1 5 0 = 1
            move 0 1 = 0
            create 1 2 5 0 = 2
            event 0 = 301
            event 0 ! NoSuchElementException
            """);
        script.run("5: its watches go also when it moves to where it is", FOUR + """
            exists 0 1 true = false
            exists 3 1 true = false
            move 0 0 = 0
            create 1 1 5 0 = 1
            event 0 ! NoSuchElementException
            event 3 = 301
            """);
    }

    private static void event(Script script) {
        script.range("13: session 0 .. 3", FOUR + """
            exists 0 1 true = false
            exists 3 1 true = false
            create 0 1 5 0 = 1
            """, "event #", 0, 3);
        script.run("13: the oldest event is taken out", FOUR + """
            exists 0 1 true = false
            exists 0 2 true = false
            create 1 2 5 0 = 2
            create 1 1 5 0 = 1
            event 0 = 302
            event 0 = 301
            """);
        script.run("13: of any OPEN session: its server is not UP", FOUR + """
            exists 1 1 true = false
            create 0 1 5 0 = 1
            crash 1 = 1
            event 1 = 301
            """);
        script.run("13: of any OPEN session: its server is ALONE, no LEADER", FOUR + """
            exists 1 1 true = false
            create 0 1 5 0 = 1
            alone 1 true = 1
            crash 0 = 1
            event 1 = 301
            """);
        script.run("13: else IllegalStateException: never opened, closed", FOUR + """
            close 0 = 0
            event 0 ! IllegalStateException
            event 1 ! NoSuchElementException
            """);
        script.run("13: else IllegalStateException: DUE, its events gone", """
            open 0 0 1 = 1
            get 0 0 true = 0
            set 0 0 -1 7 = 1
            ping 0 = 1
            alone 0 true = 1
            tick 1 = 1
            count 4 = 2
            event 0 ! IllegalStateException
            alone 0 false = 1
            open 0 0 1 = 2
            event 0 ! NoSuchElementException
            """);
        script.run("13: there is none", """
            open 0 0 50 = 50
            event 0 ! NoSuchElementException
            get 0 0 true = 0
            event 0 ! NoSuchElementException
            set 0 0 -1 7 = 1
            event 0 = 600
            event 0 ! NoSuchElementException
            """);
    }

    private static void eventsFull(Script script) {
        String eight = FOUR + eightEvents();
        StringBuilder taken = new StringBuilder();
        for (int i = 0; i < 8; i++) {
            taken.append("event 0 = 600\n");
        }
        script.run("13: at most 8 are kept: the eighth is", eight + taken + """
            event 0 ! NoSuchElementException
            """);
        script.run("13: at most 8 are kept, others are lost: the ninth, and its watch goes", eight + """
            exists 0 1 true = false
            create 1 1 5 0 = 1
            ping 0 = 8
            """ + taken + """
            event 0 ! NoSuchElementException
            set 1 1 -1 6 = 1
            event 0 ! NoSuchElementException
            """);
        script.run("13: one taken out leaves room for one more at the end", eight + """
            event 0 = 600
            exists 0 1 true = false
            exists 0 2 true = false
            create 1 1 5 0 = 1
            create 1 2 5 0 = 2
            """ + taken.substring(0, taken.length() - "event 0 = 600\n".length()) + """
            event 0 = 301
            event 0 ! NoSuchElementException
            """);
        script.run("13: of two told at once the second is lost", FOUR + sevenEvents() + """
            ping 0 = 7
            exists 0 1 true = false
            children 0 0 true = 0
            create 1 1 5 0 = 1
            ping 0 = 8
            """ + taken.substring(0, taken.length() - "event 0 = 600\n".length()) + """
            event 0 = 301
            event 0 ! NoSuchElementException
            create 1 2 5 0 = 2
            event 0 ! NoSuchElementException
            """);
        script.run("13: each session has its own eight", eight + """
            get 3 0 true = 9
            set 1 0 -1 9 = 9
            ping 0 = 8
            event 3 = 600
            """);
    }

    private static String eightEvents() {
        return sevenEvents() + "get 0 0 true = 9\nset 1 0 -1 9 = 8\n";
    }

    private static String sevenEvents() {
        StringBuilder text = new StringBuilder("ping 0 = 0\n");
        for (int i = 1; i <= 7; i++) {
            text.append("get 0 0 true\nset 1 0 -1 9 = ").append(i).append("\n");
            if (i == 1) {
                text.append("ping 0 = 1\n");
            }
        }
        return text.toString();
    }
}
