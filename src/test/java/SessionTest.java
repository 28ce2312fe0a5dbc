/** Promises 1 to 5 and 13: a new object, open, close, ping, move, event. */
public final class SessionTest {
    public static void main(String[] args) {
        Script script = new Script();
        newObject(script);
        open(script);
        close(script);
        ping(script);
        move(script);
        event(script);
        script.end();
    }

    private static void newObject(Script script) {
        script.run("1: servers, leader and sessions at first", """
            state 0 0 = 0
            state 1 0 = 0
            state 2 0 = 0
            state 0 1 = 0
            state 2 1 = 0
            state 0 2 = 1
            state 1 2 = 1
            state 2 2 = 1
            state 0 3 = 1
            state 1 3 = 1
            state 2 3 = 1
            state 0 4 = 1
            state 1 4 = 1
            state 2 4 = 1
            state 0 5 = 1
            state 1 5 = 1
            state 2 5 = 1
            count 0 = 0
            count 1 = 0
            count 2 = 1
            count 3 = 1
            count 4 = 0
            count 5 = 0
            count 6 = 0
            count 7 = 0
            """);
        script.run("1: the root", """
            open 0 2 50 = 50
            exists 0 0 false = true
            exists 0 1 false = false
            exists 0 258 false = false
            get 0 0 false = 0
            children 0 0 false = 0
            fact 0 0 0 = 0
            fact 0 0 1 = 0
            fact 0 0 2 = -1
            """);
    }

    private static void open(Script script) {
        script.run("2: answers TIME plus timeout", """
            open 0 0 1 = 1
            tick 20 = 1
            open 0 1 50 = 70
            open 3 2 7 = 27
            count 4 = 1
            count 5 = 0
            count 7 = 1
            tick 6 = 0
            tick 1 = 1
            count 7 = 0
            """);
        script.run("2: numbers out of range", """
            open -1 0 10 ! IllegalArgumentException
            open 4 0 10 ! IllegalArgumentException
            open 0 -1 10 ! IllegalArgumentException
            open 0 3 10 ! IllegalArgumentException
            open 0 0 0 ! IllegalArgumentException
            open 0 0 51 ! IllegalArgumentException
            open 0 0 -2147483648 ! IllegalArgumentException
            count 4 = 0
            """);
        script.run("2: range before state", """
            open 0 0 10 = 10
            open 0 0 51 ! IllegalArgumentException
            open 0 0 10 ! IllegalStateException
            """);
        script.run("2: an open session stays as it was", """
            open 0 0 10 = 10
            tick 4 = 0
            open 0 1 50 ! IllegalStateException
            move 0 2 = 0
            tick 6 = 1
            """);
        script.run("2: a DUE session", """
            open 0 0 1 = 1
            alone 1 true = 1
            alone 2 true = 1
            tick 1 = 1
            count 4 = 2
            open 0 0 1 ! IllegalStateException
            alone 1 false = 1
            count 4 = 0
            open 0 0 1 = 2
            """);
        script.run("2: a server that is not LINKED", """
            crash 2 = 0
            open 0 2 10 ! IllegalStateException
            restart 2 = 0
            alone 2 true = 1
            open 0 2 10 ! IllegalStateException
            open 0 1 10 = 10
            """);
        script.run("2: no QUORUM at a LINKED leader", """
            crash 1 = 0
            crash 2 = 0
            state 0 3 = 1
            open 0 0 10 ! IllegalStateException
            """);
        script.run("2: no leader", """
            crash 0 = 0
            open 0 1 10 ! IllegalStateException
            elect = 1
            open 0 1 10 = 10
            """);
        script.run("2: a session opened again has no old events or watches", """
            open 0 0 50 = 50
            open 1 0 50 = 50
            exists 1 1 true = false
            exists 1 2 true = false
            create 0 1 5 0 = 1
            close 1 = 0
            open 1 0 50 = 50
            ping 1 = 0
            create 0 2 5 0 = 2
            ping 1 = 0
            event 1 ! NoSuchElementException
            """);
    }

    private static void close(Script script) {
        script.run("3: nodes owned, and they go", """
            open 0 0 50 = 50
            open 1 1 50 = 50
            create 0 1 5 1 = 1
            create 0 2 5 0 = 2
            create 0 13 5 1 = 13
            create 1 3 5 1 = 3
            create 0 2 5 3 ! IndexOutOfBoundsException
            close 0 = 2
            count 4 = 0
            state 0 0 = 5
            state 2 1 = 5
            children 1 0 false = 6
            exists 1 13 false = false
            close 0 ! IllegalStateException
            close 1 = 1
            state 2 4 = 2
            """);
        script.run("3: nothing owned, no CLOSE in the LOG", """
            open 0 0 50 = 50
            create 0 1 5 0 = 1
            close 0 = 0
            state 0 0 = 1
            count 4 = 0
            """);
        script.run("3: wrong numbers and a session not OPEN", """
            close -1 ! IllegalArgumentException
            close 4 ! IllegalArgumentException
            close 0 ! IllegalStateException
            """);
        script.run("3: it does not REACH", """
            open 0 2 50 = 50
            alone 2 true = 1
            close 0 ! IllegalStateException
            count 4 = 1
            alone 2 false = 1
            crash 2 = 0
            close 0 ! IllegalStateException
            restart 2 = 0
            close 0 = 0
            """);
        script.run("3: at the leader, but no QUORUM", """
            open 0 0 50 = 50
            crash 1 = 0
            crash 2 = 0
            close 0 ! IllegalStateException
            count 4 = 1
            restart 1 = 0
            close 0 = 0
            """);
        script.run("3: by PLANNED the nodes without votes count too", """
            open 0 0 50 = 50
            open 1 1 50 = 50
            alone 0 true = 1
            create 0 1 5 1 !+ IllegalStateException
            create 0 2 5 1 !+ IllegalStateException
            alone 0 false = 1
            close 0 = 2
            exists 1 1 false = false
            state 1 0 = 3
            """);
        script.run("3: owned nodes that were lost with their leader do not count", """
            open 0 0 50 = 50
            alone 0 true = 1
            create 0 1 5 1 !+ IllegalStateException
            elect = 1
            alone 0 false = 1
            close 0 = 0
            state 1 0 = 0
            """);
        script.run("3: a CLOSE goes behind a full LOG", fullLog("1 1 5 1") + """
            state 0 0 = 60
            close 1 = 1
            state 0 0 = 61
            state 2 4 = 1
            """);
    }

    /** 60 entries of sessions 0 and 1 at the leader, the first a create by session 1. */
    private static String fullLog(String firstCreate) {
        StringBuilder text = new StringBuilder();
        text.append("open 0 0 50 = 50\nopen 1 0 50 = 50\ncreate ").append(firstCreate).append("\n");
        for (int i = 1; i <= 59; i++) {
            text.append("set 0 0 -1 ").append(i).append(" = ").append(i).append("\n");
        }
        return text.toString();
    }

    private static void ping(Script script) {
        script.run("4: HEARD now", """
            open 0 0 5 = 5
            tick 4 = 0
            ping 0 = 0
            tick 4 = 0
            ping 0 = 0
            tick 5 = 1
            ping 0 ! IllegalStateException
            """);
        script.run("4: answers the events, and leaves them", """
            open 0 0 5 = 5
            exists 0 1 true = false
            exists 0 2 true = false
            create 0 1 5 0 = 1
            ping 0 = 1
            create 0 2 5 0 = 2
            ping 0 = 2
            ping 0 = 2
            event 0 = 301
            ping 0 = 1
            """);
        script.run("4: wrong numbers, not OPEN, no REACH, no QUORUM", """
            ping -1 ! IllegalArgumentException
            ping 4 ! IllegalArgumentException
            ping 3 ! IllegalStateException
            open 3 1 5 = 5
            alone 1 true = 1
            tick 3 = 0
            ping 3 ! IllegalStateException
            alone 1 false = 1
            crash 1 = 0
            ping 3 ! IllegalStateException
            crash 0 = 0
            restart 1 = 0
            ping 3 ! IllegalStateException
            tick 2 = 1
            """);
        script.run("4: no QUORUM at the leader", """
            open 0 0 5 = 5
            alone 0 true = 1
            tick 3 = 0
            ping 0 ! IllegalStateException
            tick 2 = 1
            """);
    }

    private static void move(Script script) {
        script.run("5: answers the server before", """
            open 0 0 50 = 50
            move 0 2 = 0
            move 0 1 = 2
            move 0 1 = 1
            """);
        script.run("5: wrong numbers, not OPEN, server not UP", """
            move -1 0 ! IllegalArgumentException
            move 4 0 ! IllegalArgumentException
            move 0 -1 ! IllegalArgumentException
            move 0 3 ! IllegalArgumentException
            move 0 0 ! IllegalStateException
            open 0 0 50 = 50
            move 0 3 ! IllegalArgumentException
            crash 2 = 0
            move 0 2 ! IllegalStateException
            move 0 1 = 0
            """);
        script.run("5: from a server that is down, to one that is ALONE, without a leader", """
            open 0 0 50 = 50
            crash 0 = 0
            get 0 0 false ! IllegalStateException
            alone 1 true = 1
            move 0 1 = 0
            get 0 0 false = 0
            ping 0 ! IllegalStateException
            """);
        script.run("5: a DUE session is not OPEN", """
            open 0 0 1 = 1
            alone 0 true = 1
            tick 1 = 1
            count 4 = 2
            move 0 1 ! IllegalStateException
            """);
        script.run("5: watches go, events stay", """
            open 0 0 50 = 50
            exists 0 1 true = false
            exists 0 2 true = false
            children 0 0 true = 0
            create 0 1 5 0 = 1
            move 0 2 = 0
            create 0 2 5 0 = 2
            event 0 = 301
            event 0 = 1200
            event 0 ! NoSuchElementException
            move 0 0 = 2
            create 0 3 5 0 = 3
            event 0 ! NoSuchElementException
            """);
        script.run("5: HEARD stays", """
            open 0 0 5 = 5
            tick 3 = 0
            move 0 1 = 0
            tick 2 = 1
            """);
        script.run("5: reads the other server's tree from now on", """
            open 0 2 50 = 50
            open 1 0 50 = 50
            alone 2 true = 1
            create 1 1 5 0 = 1
            exists 0 1 false = false
            move 0 1 = 2
            exists 0 1 false = true
            """);
    }

    private static void event(Script script) {
        script.run("13: oldest first", """
            open 0 0 50 = 50
            exists 0 1 true = false
            exists 0 2 true = false
            exists 0 3 true = false
            create 0 2 5 0 = 2
            create 0 3 5 0 = 3
            event 0 = 302
            create 0 1 5 0 = 1
            event 0 = 303
            event 0 = 301
            event 0 ! NoSuchElementException
            """);
        script.run("13: wrong numbers, not OPEN, none", """
            event -1 ! IllegalArgumentException
            event 4 ! IllegalArgumentException
            event 0 ! IllegalStateException
            open 0 0 1 = 1
            event 0 ! NoSuchElementException
            exists 0 1 true = false
            create 0 1 5 0 = 1
            tick 1 = 1
            event 0 ! IllegalStateException
            """);
        script.run("13: also of a session whose server is down", """
            open 0 2 50 = 50
            open 1 0 50 = 50
            exists 0 1 true = false
            create 1 1 5 0 = 1
            crash 2 = 1
            event 0 = 301
            event 0 ! NoSuchElementException
            """);
        script.run("13: eight are kept and later ones lost, their watches too", """
            open 0 0 50 = 50
            create 0 1 5 0 = 1
            exists 0 0 true = true
            exists 0 1 true = true
            exists 0 2 true = false
            exists 0 3 true = false
            exists 0 4 true = false
            exists 0 5 true = false
            exists 0 6 true = false
            exists 0 7 true = false
            exists 0 8 true = false
            exists 0 9 true = false
            set 0 0 -1 1 = 1
            set 0 1 -1 1 = 1
            create 0 2 5 0 = 2
            create 0 3 5 0 = 3
            create 0 4 5 0 = 4
            create 0 5 5 0 = 5
            create 0 6 5 0 = 6
            ping 0 = 7
            create 0 7 5 0 = 7
            ping 0 = 8
            create 0 8 5 0 = 8
            ping 0 = 8
            event 0 = 600
            set 0 8 -1 1 = 1
            create 0 9 5 0 = 9
            event 0 = 601
            event 0 = 302
            event 0 = 303
            event 0 = 304
            event 0 = 305
            event 0 = 306
            event 0 = 307
            event 0 = 309
            event 0 ! NoSuchElementException
            """);
    }
}
