/** Promises 14 to 20: crash, restart, alone, elect, tick, state, count. */
public final class ServerTest {
    public static void main(String[] args) {
        Script script = new Script();
        crash(script);
        restart(script);
        alone(script);
        elect(script);
        electByAgeAndLog(script);
        tick(script);
        state(script);
        count(script);
        script.end();
    }

    private static void crash(Script script) {
        script.run("14: a follower", """
            open 0 0 50 = 50
            create 0 1 5 0 = 1
            crash 2 = 1
            state 2 2 = 0
            state 2 3 = 0
            count 1 = 0
            count 3 = 1
            crash 2 ! IllegalStateException
            create 0 2 5 0 = 2
            state 2 0 = 1
            state 2 1 = 1
            state 2 4 = 2
            crash 1 = 2
            count 1 = 0
            count 3 = 0
            """);
        script.run("14: the leader", """
            open 0 1 50 = 50
            create 0 1 5 0 = 1
            crash 0 = 1
            count 1 = -1
            count 3 = 0
            state 0 0 = 1
            state 0 4 = 2
            state 1 3 = 0
            state 1 2 = 1
            get 0 1 false = 5
            """);
        script.run("14: wrong numbers", """
            crash -1 ! IllegalArgumentException
            crash 3 ! IllegalArgumentException
            count 3 = 1
            """);
        script.run("14: a LOG longer than what is APPLIED", """
            open 0 0 50 = 50
            alone 0 true = 1
            create 0 1 5 0 !+ IllegalStateException
            crash 0 = 1
            state 0 1 = 0
            """);
    }

    private static void restart(Script script) {
        script.run("15: catches up with the leader", """
            open 0 0 50 = 50
            crash 2 = 0
            create 0 1 5 0 = 1
            create 0 2 5 0 = 2
            restart 2 = 2
            state 2 0 = 2
            state 2 1 = 2
            state 2 2 = 1
            state 2 4 = 3
            restart 2 ! IllegalStateException
            """);
        script.run("15: without a leader nothing spreads", """
            open 0 0 50 = 50
            crash 2 = 0
            create 0 1 5 0 = 1
            crash 0 = 1
            restart 2 = 0
            state 2 0 = 0
            state 2 3 = 0
            restart 0 = 1
            count 1 = -1
            count 3 = 0
            """);
        script.run("15: ALONE stays over a crash", """
            open 0 0 50 = 50
            alone 2 true = 1
            crash 2 = 0
            create 0 1 5 0 = 1
            restart 2 = 0
            state 2 3 = 0
            state 2 0 = 0
            alone 2 false = 1
            state 2 0 = 1
            """);
        script.run("15: wrong numbers and an UP server", """
            restart -1 ! IllegalArgumentException
            restart 3 ! IllegalArgumentException
            restart 0 ! IllegalStateException
            """);
        script.run("15: it gives QUORUM, then DUE sessions are closed", """
            open 0 0 50 = 50
            open 1 1 5 = 5
            create 1 1 5 1 = 1
            crash 1 = 1
            crash 2 = 1
            tick 5 = 1
            count 5 = 2
            state 0 0 = 1
            restart 2 = 1
            count 5 = 0
            state 0 0 = 2
            state 2 1 = 2
            state 1 0 = 1
            exists 0 1 false = false
            restart 1 = 2
            """);
    }

    private static void alone(Script script) {
        script.run("16: a change or not", """
            alone 1 true = 1
            state 1 3 = 0
            state 1 2 = 1
            alone 1 true = 0
            alone 1 false = 1
            alone 1 false = 0
            state 1 3 = 1
            crash 1 = 0
            alone 1 true = 1
            alone 1 false = 1
            """);
        script.run("16: the leader ALONE: none is LINKED, it still leads", """
            alone 0 true = 1
            state 0 3 = 0
            state 1 3 = 0
            state 2 3 = 0
            count 1 = 0
            count 3 = 0
            alone 0 false = 1
            count 3 = 1
            """);
        script.run("16: back again it spreads", """
            open 0 0 50 = 50
            alone 1 true = 1
            create 0 1 5 0 = 1
            state 1 0 = 0
            alone 2 true = 1
            create 0 2 5 0 !+ IllegalStateException
            state 0 1 = 1
            state 2 0 = 1
            alone 1 false = 1
            state 0 1 = 2
            state 1 1 = 2
            state 2 1 = 1
            """);
        script.run("16: without a leader nothing spreads", """
            open 0 0 50 = 50
            alone 1 true = 1
            create 0 1 5 0 = 1
            crash 0 = 1
            alone 1 false = 1
            state 1 0 = 0
            """);
        script.run("16: with QUORUM again DUE sessions are closed by rising numbers", """
            open 0 0 50 = 50
            open 1 1 3 = 3
            open 2 2 3 = 3
            open 3 2 3 = 3
            create 2 1 5 1 = 1
            create 1 2 5 1 = 2
            exists 0 1 true = true
            exists 0 2 true = true
            alone 0 true = 1
            tick 3 = 3
            count 5 = 2
            count 6 = 2
            count 7 = 2
            alone 0 false = 1
            count 5 = 0
            count 6 = 0
            count 7 = 0
            state 0 0 = 4
            event 0 = 902
            event 0 = 901
            """);
        script.run("16: wrong numbers", """
            alone -1 true ! IllegalArgumentException
            alone 3 false ! IllegalArgumentException
            """);
    }

    private static void elect(Script script) {
        script.run("17: the least of equals; EPOCH and AGE", """
            elect = 0
            count 2 = 2
            state 0 5 = 2
            state 1 5 = 2
            state 2 5 = 2
            alone 0 true = 1
            elect = 1
            count 1 = 1
            count 2 = 3
            state 0 5 = 2
            state 1 5 = 3
            state 2 5 = 3
            alone 0 false = 1
            state 0 5 = 3
            elect = 0
            count 2 = 4
            """);
        script.run("17: fewer than two", """
            alone 0 true = 1
            crash 1 = 0
            elect ! IllegalStateException
            count 1 = 0
            count 2 = 1
            restart 1 = 0
            elect = 1
            crash 1 = 0
            crash 2 = 0
            elect ! IllegalStateException
            count 1 = -1
            crash 0 = 0
            elect ! IllegalStateException
            """);
        script.run("17: it gives QUORUM, then DUE sessions are closed", """
            open 0 0 3 = 3
            open 1 1 50 = 50
            create 0 1 5 1 = 1
            crash 0 = 1
            tick 3 = 1
            count 4 = 2
            exists 1 1 false = true
            elect = 1
            count 4 = 0
            state 1 0 = 2
            exists 1 1 false = false
            """);
        script.run("17: a new leader's LOG replaces the old one's", """
            open 0 0 50 = 50
            open 1 1 50 = 50
            alone 0 true = 1
            create 0 1 5 0 !+ IllegalStateException
            create 0 2 5 0 !+ IllegalStateException
            state 0 0 = 2
            elect = 1
            create 1 3 5 0 = 3
            state 0 0 = 2
            alone 0 false = 1
            state 0 0 = 1
            state 0 1 = 1
            children 0 0 false = 4
            """);
    }

    private static void electByAgeAndLog(Script script) {
        script.run("17: the longest LOG among equal AGES", """
            open 0 0 50 = 50
            alone 1 true = 1
            create 0 1 5 0 = 1
            alone 1 false = 1
            crash 1 = 1
            create 0 2 5 0 = 2
            crash 0 = 2
            restart 1 = 1
            state 1 5 = 1
            state 2 5 = 1
            elect = 2
            state 1 0 = 2
            state 1 1 = 2
            """);
        script.run("17: AGE goes before the length of the LOG", """
            open 0 0 50 = 50
            open 1 1 50 = 50
            alone 0 true = 1
            create 0 1 5 0 !+ IllegalStateException
            create 0 2 5 0 !+ IllegalStateException
            create 0 3 5 0 !+ IllegalStateException
            elect = 1
            create 1 4 5 0 = 4
            crash 1 = 1
            alone 0 false = 1
            state 0 0 = 3
            state 0 5 = 1
            state 2 5 = 2
            elect = 2
            state 0 0 = 1
            count 2 = 3
            children 0 0 false = 8
            """);
        script.run("17: entries without votes live on if their server leads again", """
            open 0 0 50 = 50
            open 1 1 50 = 50
            alone 0 true = 1
            create 0 1 5 0 !+ IllegalStateException
            crash 0 = 1
            alone 0 false = 1
            restart 0 = 0
            state 0 0 = 1
            exists 1 1 false = false
            elect = 0
            exists 1 1 false = true
            state 1 1 = 1
            """);
        script.run("17: a server that is ALONE is not elected", """
            open 0 0 50 = 50
            crash 1 = 0
            create 0 1 5 0 = 1
            restart 1 = 1
            alone 0 true = 1
            create 0 2 5 0 !+ IllegalStateException
            elect = 1
            state 2 0 = 1
            """);
    }

    private static void tick(Script script) {
        script.run("18: TIME and EXPIRY", """
            open 0 0 5 = 5
            open 1 1 5 = 5
            open 2 2 6 = 6
            tick 0 = 0
            count 0 = 0
            tick 4 = 0
            count 4 = 1
            tick 1 = 2
            count 0 = 5
            count 4 = 0
            count 5 = 0
            count 6 = 1
            tick 20 = 1
            tick 20 = 0
            count 0 = 45
            """);
        script.run("18: out of range", """
            open 0 0 1 = 1
            tick -1 ! IllegalArgumentException
            tick 21 ! IllegalArgumentException
            tick -2147483648 ! IllegalArgumentException
            count 0 = 0
            count 4 = 1
            """);
        script.run("18: the nodes of an EXPIRED session go", """
            open 0 0 5 = 5
            open 1 1 50 = 50
            create 0 1 5 1 = 1
            create 0 2 5 0 = 2
            tick 5 = 1
            count 4 = 0
            state 0 0 = 3
            children 1 0 false = 2
            open 0 0 5 = 10
            """);
        script.run("18: it EXPIRES also when its server is down, DUE without QUORUM", """
            open 0 2 5 = 5
            open 1 0 50 = 50
            create 0 1 5 1 = 1
            crash 2 = 1
            alone 1 true = 1
            tick 5 = 1
            count 4 = 2
            tick 5 = 0
            count 4 = 2
            state 0 0 = 1
            exists 1 1 false = true
            alone 1 false = 1
            count 4 = 0
            exists 1 1 false = false
            """);
        script.run("18: all sessions behind a full LOG", fullLog() + """
            state 0 0 = 60
            tick 20 = 0
            tick 20 = 0
            tick 10 = 4
            state 0 0 = 64
            state 2 1 = 64
            state 1 4 = 1
            alone 1 true = 1
            alone 1 false = 1
            crash 0 = 64
            elect = 1
            state 2 0 = 64
            open 0 1 50 = 100
            children 0 0 false = 0
            """);
        script.run("18: EXPIRED sessions are closed by rising numbers", """
            open 0 0 50 = 50
            open 3 0 5 = 5
            open 1 0 5 = 5
            create 3 1 5 1 = 1
            create 1 2 5 1 = 2
            get 0 1 true = 5
            get 0 2 true = 5
            tick 5 = 2
            event 0 = 902
            event 0 = 901
            state 1 0 = 4
            """);
    }

    private static String fullLog() {
        StringBuilder text = new StringBuilder();
        for (int s = 0; s < 4; s++) {
            text.append("open ").append(s).append(" 0 50 = 50\n");
            text.append("create ").append(s).append(" ").append(s + 1).append(" 5 1\n");
        }
        for (int i = 1; i <= 56; i++) {
            text.append("set 0 0 -1 9 = ").append(i).append("\n");
        }
        return text.toString();
    }

    private static void state(Script script) {
        script.run("19: LOG, APPLIED, UP, LINKED, nodes, AGE", """
            open 0 0 50 = 50
            create 0 1 5 0 = 1
            create 0 7 5 0 = 7
            delete 0 7 -1 = 0
            alone 0 true = 1
            set 0 1 -1 6 !+ IllegalStateException
            state 0 0 = 4
            state 0 1 = 3
            state 0 2 = 1
            state 0 3 = 0
            state 0 4 = 2
            state 0 5 = 1
            elect = 1
            state 1 0 = 3
            state 1 1 = 3
            state 1 3 = 1
            state 0 3 = 0
            state 1 5 = 2
            state 0 5 = 1
            crash 2 = 3
            state 2 2 = 0
            state 2 3 = 0
            state 1 3 = 1
            """);
        script.run("19: out of range", """
            state -1 0 ! IllegalArgumentException
            state 3 0 ! IllegalArgumentException
            state 0 -1 ! IllegalArgumentException
            state 0 6 ! IllegalArgumentException
            """);
    }

    private static void count(Script script) {
        script.run("20: TIME, leader, EPOCH, QUORUM, sessions", """
            tick 7 = 0
            count 0 = 7
            open 0 0 1 = 8
            open 3 2 50 = 57
            crash 1 = 0
            count 3 = 1
            alone 2 true = 1
            count 3 = 0
            tick 1 = 1
            count 4 = 2
            count 5 = 0
            count 6 = 0
            count 7 = 1
            crash 0 = 0
            count 1 = -1
            restart 1 = 0
            alone 2 false = 1
            count 3 = 0
            count 4 = 2
            elect = 1
            count 1 = 1
            count 2 = 2
            count 3 = 1
            count 4 = 0
            """);
        script.run("20: out of range", """
            count -1 ! IllegalArgumentException
            count 8 ! IllegalArgumentException
            """);
    }
}
