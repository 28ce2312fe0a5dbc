/** Promises 14 to 20: one run for each sentence that names an edge; the titles are the document's words. */
public final class ServerEdgeTest {
    private static final String FOUR = """
        open 0 0 50 = 50
        open 1 1 50 = 50
        open 2 2 50 = 50
        open 3 0 50 = 50
        """;

    public static void main(String[] args) {
        Script script = new Script();
        crash(script);
        restart(script);
        restartSpreads(script);
        alone(script);
        electRefused(script);
        electChoice(script);
        electSpreads(script);
        tick(script);
        tickEnds(script);
        state(script);
        count(script);
        script.end();
    }

    private static void crash(Script script) {
        script.range("14: server 0 .. 2", FOUR, "crash #", 0, 2);
        script.run("14: an UP server is not UP any more, else IllegalStateException", """
            crash 1 = 0
            state 1 2 = 0
            crash 1 ! IllegalStateException
            restart 1 = 0
            crash 1 = 0
            """);
        script.run("14: also one that is ALONE", """
            alone 1 true = 1
            crash 1 = 0
            crash 1 ! IllegalStateException
            """);
        script.run("14: the LEADER: there is no LEADER then, nor when it is UP again", """
            crash 0 = 0
            count 1 = -1
            crash 0 ! IllegalStateException
            restart 0 = 0
            count 1 = -1
            count 3 = 0
            """);
        script.run("14: another one: the LEADER stays", """
            crash 1 = 0
            crash 2 = 0
            count 1 = 0
            """);
        script.run("14: the second of a pair of LEADERS", """
            crash 0 = 0
            elect = 1
            restart 0 = 0
            crash 0 = 0
            count 1 = 1
            crash 1 = 0
            count 1 = -1
            """);
        script.run("14: its LOG and TREE stay, and what it has APPLIED", FOUR + """
            create 0 1 5 0 = 1
            crash 2 = 1
            state 2 0 = 1
            state 2 1 = 1
            state 2 4 = 2
            state 2 5 = 1
            restart 2 = 1
            get 2 1 false = 5
            """);
        script.run("14: answers the length of its LOG: empty, behind, with what is not APPLIED", FOUR + """
            crash 2 = 0
            create 0 1 5 0 = 1
            create 0 2 5 0 = 2
            alone 1 true = 1
            create 0 3 5 0 !+ IllegalStateException
            crash 1 = 2
            crash 0 = 3
            state 0 1 = 2
            """);
        script.run("14: the last of all", """
            crash 0 = 0
            crash 1 = 0
            crash 2 = 0
            crash 2 ! IllegalStateException
            restart 2 = 0
            """);
    }

    private static void restart(Script script) {
        script.range("15: server 0 .. 2", """
            crash 0 = 0
            crash 1 = 0
            crash 2 = 0
            """, "restart #", 0, 2);
        script.run("15: a server that is not UP, else IllegalStateException, is UP", """
            restart 0 ! IllegalStateException
            restart 2 ! IllegalStateException
            crash 2 = 0
            restart 2 = 0
            state 2 2 = 1
            restart 2 ! IllegalStateException
            """);
        script.run("15: UP but ALONE: IllegalStateException", """
            alone 2 true = 1
            restart 2 ! IllegalStateException
            """);
        script.run("15: answers how many ENTRIES it has APPLIED, not how long its LOG is", FOUR + """
            create 0 1 5 0 = 1
            alone 0 true = 1
            create 0 2 5 0 !+ IllegalStateException
            crash 0 = 2
            restart 0 = 1
            state 0 0 = 2
            """);
        script.run("15: answers those of the SPREAD too", FOUR + """
            crash 2 = 0
            create 0 1 5 0 = 1
            create 0 2 5 0 = 2
            restart 2 = 2
            """);
        script.run("15: answers those before the CLOSE of a DUE session", FOUR + """
            create 1 1 5 1 = 1
            crash 1 = 1
            crash 2 = 1
            tick 20 = 0
            tick 20 = 0
            tick 10 = 4
            restart 2 = 1
            state 2 1 = 2
            count 5 = 0
            """);
    }

    private static void restartSpreads(Script script) {
        script.run("15: if there is a LEADER: SPREAD", FOUR + """
            crash 2 = 0
            create 0 1 5 0 = 1
            restart 2 = 1
            state 2 0 = 1
            exists 2 1 false = true
            """);
        script.run("15: if there is none it stays as it was", FOUR + """
            crash 2 = 0
            create 0 1 5 0 = 1
            crash 0 = 1
            restart 2 = 0
            state 2 0 = 0
            """);
        script.run("15: the LEADER is ALONE: none is LINKED", FOUR + """
            crash 2 = 0
            create 0 1 5 0 = 1
            alone 0 true = 1
            restart 2 = 0
            state 2 0 = 0
            """);
        script.run("15: the server is ALONE: it is not LINKED", FOUR + """
            alone 2 true = 1
            crash 2 = 0
            create 0 1 5 0 = 1
            restart 2 = 0
            state 2 0 = 0
            state 2 2 = 1
            state 2 3 = 0
            """);
        script.run("15: it makes the QUORUM: the LEADER APPLIES too", FOUR + """
            crash 1 = 0
            crash 2 = 0
            create 0 1 5 0 !+ IllegalStateException
            state 0 1 = 0
            restart 1 = 1
            state 0 1 = 1
            state 2 0 = 0
            """);
        script.run("15: its AGE becomes EPOCH", """
            crash 2 = 0
            elect = 0
            elect = 0
            state 2 5 = 1
            restart 2 = 0
            state 2 5 = 3
            """);
    }

    private static void alone(Script script) {
        script.range("16: server 0 .. 2", FOUR, "alone # true", 0, 2);
        script.range("16: server 0 .. 2", FOUR, "alone # false", 0, 2);
        script.run("16: answers 1 if that is a change, else 0", """
            alone 0 false = 0
            alone 0 true = 1
            alone 0 true = 0
            alone 0 false = 1
            alone 0 false = 0
            """);
        script.run("16: a server that is not UP is ALONE, or not", """
            crash 2 = 0
            alone 2 true = 1
            alone 2 true = 0
            restart 2 = 0
            state 2 3 = 0
            crash 2 = 0
            alone 2 false = 1
            restart 2 = 0
            state 2 3 = 1
            """);
        script.run("16: all of them, and none LINKED", """
            alone 0 true = 1
            alone 1 true = 1
            alone 2 true = 1
            state 0 3 = 0
            state 1 3 = 0
            state 2 3 = 0
            count 1 = 0
            """);
        script.run("16: if there is a LEADER: SPREAD", FOUR + """
            alone 2 true = 1
            create 0 1 5 0 = 1
            state 2 0 = 0
            alone 2 false = 1
            state 2 0 = 1
            state 2 1 = 1
            """);
        script.run("16: if there is none it stays as it was", FOUR + """
            alone 2 true = 1
            create 0 1 5 0 = 1
            crash 0 = 1
            alone 2 false = 1
            state 2 0 = 0
            state 2 3 = 0
            """);
        script.run("16: the LEADER again with the others: they get what it had alone", FOUR + """
            alone 0 true = 1
            create 0 1 5 0 !+ IllegalStateException
            alone 0 false = 1
            state 1 1 = 1
            state 2 1 = 1
            state 0 1 = 1
            """);
        script.run("16: DUE sessions at the end of the call, with QUORUM alone", FOUR + """
            create 1 1 5 1 = 1
            alone 0 true = 1
            tick 20 = 0
            tick 20 = 0
            tick 10 = 4
            alone 1 true = 1
            alone 2 true = 1
            alone 0 false = 1
            count 5 = 2
            state 0 0 = 1
            alone 2 false = 1
            count 5 = 0
            state 0 0 = 2
            """);
    }

    private static void electRefused(Script script) {
        script.run("17: fewer than two servers are UP and not ALONE: one UP", """
            crash 0 = 0
            crash 1 = 0
            elect ! IllegalStateException
            """);
        script.run("17: fewer than two servers are UP and not ALONE: one not ALONE", """
            alone 1 true = 1
            alone 2 true = 1
            elect ! IllegalStateException
            count 1 = 0
            count 2 = 1
            """);
        script.run("17: fewer than two servers are UP and not ALONE: one of each", """
            alone 1 true = 1
            crash 2 = 0
            elect ! IllegalStateException
            count 2 = 1
            """);
        script.run("17: fewer than two servers are UP and not ALONE: none", """
            alone 0 true = 1
            alone 1 true = 1
            crash 2 = 0
            elect ! IllegalStateException
            crash 0 = 0
            crash 1 = 0
            elect ! IllegalStateException
            count 1 = -1
            """);
        script.run("17: two are enough", """
            alone 0 true = 1
            elect = 1
            count 3 = 1
            """);
    }

    private static void electChoice(Script script) {
        script.run("17: of these the least: of three, of two", """
            elect = 0
            crash 0 = 0
            elect = 1
            restart 0 = 0
            elect = 0
            alone 1 true = 1
            elect = 0
            """);
        script.run("17: of these, not one that is ALONE or not UP, though its LOG is longest", FOUR + """
            alone 0 true = 1
            create 0 1 5 0 !+ IllegalStateException
            elect = 1
            alone 0 false = 1
            alone 1 true = 1
            create 1 2 5 0 !+ IllegalStateException
            crash 1 = 1
            elect = 0
            """);
        script.run("17: with the longest LOG, though not the least", FOUR + """
            alone 1 true = 1
            create 0 1 5 0 = 1
            crash 0 = 1
            alone 1 false = 1
            state 1 5 = 1
            state 2 5 = 1
            elect = 2
            state 1 0 = 1
            """);
        script.run("17: with the longest LOG: one more is enough", FOUR + Script.sets(1, 3) + """
            crash 1 = 3
            """ + Script.sets(4, 4) + """
            crash 0 = 4
            restart 1 = 3
            elect = 2
            """);
        script.run("17: the greatest AGE goes before the longest LOG", FOUR + """
            alone 0 true = 1
            set 0 0 -1 5 !+ IllegalStateException
            set 0 0 -1 5 !+ IllegalStateException
            elect = 1
            crash 1 = 0
            alone 0 false = 1
            state 0 5 = 1
            state 2 5 = 2
            elect = 2
            state 0 0 = 0
            """);
        script.run("17: the greatest AGE goes before the least", """
            alone 0 true = 1
            elect = 1
            crash 1 = 0
            alone 0 false = 1
            elect = 2
            """);
    }

    private static void electSpreads(Script script) {
        script.run("17: EPOCH rises by 1, also for the same LEADER", """
            elect = 0
            count 2 = 2
            elect = 0
            count 2 = 3
            """);
        script.run("17: SPREAD: the AGE of each LINKED server becomes EPOCH, of no other", """
            crash 2 = 0
            alone 1 true = 1
            elect ! IllegalStateException
            alone 1 false = 1
            elect = 0
            state 0 5 = 2
            state 1 5 = 2
            state 2 5 = 1
            """);
        script.run("17: SPREAD: a longer LOG is cut to that of the LEADER, and grows again", FOUR + """
            alone 0 true = 1
            create 0 1 5 0 !+ IllegalStateException
            create 0 2 5 0 !+ IllegalStateException
            create 0 3 5 0 !+ IllegalStateException
            elect = 1
            alone 0 false = 1
            state 0 0 = 0
            create 1 4 5 0 = 4
            state 0 0 = 1
            children 0 0 false = 8
            """);
        script.run("17: SPREAD: what a LEADER had not APPLIED, it has when it leads again", FOUR + """
            alone 0 true = 1
            create 0 1 5 0 !+ IllegalStateException
            crash 0 = 1
            alone 0 false = 1
            restart 0 = 0
            elect = 0
            state 0 1 = 1
            state 2 1 = 1
            """);
        script.run("17: there was a LEADER, cut off: it leads no more", FOUR + """
            alone 0 true = 1
            elect = 1
            count 1 = 1
            create 0 1 5 0 ! IllegalStateException
            ping 0 ! IllegalStateException
            create 1 1 5 0 = 1
            """);
        script.run("17: answers the LEADER; then DUE sessions are closed", FOUR + """
            create 0 1 5 1 = 1
            crash 0 = 1
            tick 20 = 0
            tick 20 = 0
            tick 10 = 4
            count 4 = 2
            elect = 1
            count 4 = 0
            state 1 0 = 2
            """);
    }

    private static void tick(Script script) {
        script.range("18: by 0 .. 20", "", "tick #", 0, 20);
        script.run("18: TIME goes on: not at all, by the most", """
            tick 0 = 0
            count 0 = 0
            tick 20 = 0
            count 0 = 20
            tick 1 = 0
            count 0 = 21
            """);
        script.run("18: HEARD plus TIMEOUT is above TIME: it does not EXPIRE", """
            open 0 0 20 = 20
            tick 19 = 0
            count 4 = 1
            tick 0 = 0
            count 4 = 1
            """);
        script.run("18: HEARD plus TIMEOUT is TIME: it EXPIRES", """
            open 0 0 20 = 20
            tick 20 = 1
            count 4 = 0
            """);
        script.run("18: HEARD plus TIMEOUT is below TIME: it EXPIRES", """
            open 0 0 1 = 1
            tick 20 = 1
            count 4 = 0
            """);
        script.run("18: answers how many: none, some, all, and none again", """
            tick 1 = 0
            open 0 0 5 = 6
            open 1 1 5 = 6
            open 2 2 9 = 10
            open 3 0 9 = 10
            tick 5 = 2
            tick 4 = 2
            tick 20 = 0
            open 0 0 5 = 35
            open 1 0 5 = 35
            open 2 0 5 = 35
            open 3 0 5 = 35
            tick 5 = 4
            tick 0 = 0
            """);
    }

    private static void tickEnds(Script script) {
        script.run("18: a DUE session does not EXPIRE again", """
            open 0 0 1 = 1
            alone 0 true = 1
            tick 1 = 1
            tick 20 = 0
            count 4 = 2
            """);
        script.run("18: it EXPIRES wherever its server is: not UP, ALONE, without a LEADER", FOUR + """
            crash 0 = 0
            alone 1 true = 1
            tick 20 = 0
            tick 20 = 0
            tick 10 = 4
            count 4 = 2
            count 5 = 2
            count 6 = 2
            """);
        script.run("18: with QUORUM a session that owns none is DUE no more, and no CLOSE is PROPOSED", """
            open 0 0 1 = 1
            create 0 1 5 0 = 1
            tick 1 = 1
            count 4 = 0
            state 0 0 = 1
            """);
        script.run("18: with QUORUM CLOSE is PROPOSED for one that owns a node", """
            open 0 0 1 = 1
            create 0 1 5 1 = 1
            tick 1 = 1
            count 4 = 0
            state 0 0 = 2
            state 2 1 = 2
            state 2 4 = 1
            """);
        script.run("18: for the DUE sessions by rising numbers", """
            open 3 0 1 = 1
            open 0 0 1 = 1
            open 1 1 50 = 50
            create 3 1 5 1 = 1
            create 0 2 5 1 = 2
            exists 1 1 true = true
            exists 1 2 true = true
            tick 1 = 2
            event 1 = 902
            event 1 = 901
            """);
        script.run("18: without QUORUM it stays DUE until there is QUORUM", """
            open 0 0 1 = 1
            create 0 1 5 1 = 1
            crash 1 = 1
            crash 2 = 1
            tick 1 = 1
            count 4 = 2
            count 4 = 2
            state 0 0 = 1
            restart 1 = 1
            count 4 = 0
            state 0 0 = 2
            """);
        script.run("18: by PLANNED: what it owns without votes goes too", """
            open 0 0 1 = 1
            alone 0 true = 1
            create 0 1 5 1 !+ IllegalStateException
            tick 1 = 1
            alone 0 false = 1
            state 0 0 = 2
            state 1 4 = 1
            """);
    }

    private static void state(Script script) {
        script.range("19: server 0 .. 2", "", "state # 0", 0, 2);
        script.range("19: what 0 .. 5", "", "state 0 #", 0, 5);
        script.run("19: what 0: the length of a server's LOG; 1 how many it has APPLIED", FOUR + """
            create 0 1 5 0 = 1
            alone 2 true = 1
            create 0 2 5 0 = 2
            alone 0 true = 1
            create 0 3 5 0 !+ IllegalStateException
            state 0 0 = 3
            state 1 0 = 2
            state 2 0 = 1
            state 0 1 = 2
            state 1 1 = 2
            state 2 1 = 1
            """);
        script.run("19: what 2: 1 if it is UP, else 0, also if it is ALONE", """
            alone 1 true = 1
            crash 2 = 0
            state 0 2 = 1
            state 1 2 = 1
            state 2 2 = 0
            """);
        script.run("19: what 3: 1 if it is LINKED, else 0", """
            alone 1 true = 1
            crash 2 = 0
            state 0 3 = 1
            state 1 3 = 0
            state 2 3 = 0
            """);
        script.run("19: what 3: if the LEADER is not, or there is none, no one is LINKED", """
            alone 0 true = 1
            state 0 3 = 0
            state 1 3 = 0
            state 2 3 = 0
            alone 0 false = 1
            state 1 3 = 1
            crash 0 = 0
            state 0 3 = 0
            state 1 3 = 0
            state 2 3 = 0
            """);
        script.run("19: what 4: the nodes of its TREE, the root counted", FOUR + """
            state 2 4 = 1
            create 0 6 5 0 = 6
            create 0 42 5 0 = 42
            create 0 258 5 1 = 258
            state 2 4 = 4
            crash 2 = 3
            delete 0 258 -1 = 0
            state 2 4 = 4
            state 1 4 = 3
            """);
        script.run("19: what 5: its AGE", """
            crash 2 = 0
            elect = 0
            state 0 5 = 2
            state 1 5 = 2
            state 2 5 = 1
            """);
    }

    private static void count(Script script) {
        script.range("20: what 0 .. 7", "", "count #", 0, 7);
        script.run("20: what 0 TIME", """
            count 0 = 0
            tick 20 = 0
            count 0 = 20
            """);
        script.run("20: what 1 the LEADER, -1 for none", """
            count 1 = 0
            alone 0 true = 1
            count 1 = 0
            elect = 1
            count 1 = 1
            crash 1 = 0
            count 1 = -1
            alone 0 false = 1
            elect = 2
            count 1 = 2
            """);
        script.run("20: what 2 EPOCH", """
            count 2 = 1
            crash 0 = 0
            count 2 = 1
            elect = 1
            count 2 = 2
            """);
        script.run("20: what 3: 1 with QUORUM: three and two LINKED; else 0: one and none", """
            count 3 = 1
            crash 1 = 0
            count 3 = 1
            crash 2 = 0
            count 3 = 0
            alone 0 true = 1
            count 3 = 0
            restart 1 = 0
            restart 2 = 0
            count 3 = 0
            alone 0 false = 1
            count 3 = 1
            crash 0 = 0
            count 3 = 0
            """);
        script.run("20: 4 + s: of session s: 1 OPEN, 2 DUE, else 0", """
            open 0 0 50 = 50
            open 3 0 1 = 1
            open 2 0 1 = 1
            close 2 = 0
            alone 0 true = 1
            tick 1 = 1
            count 4 = 1
            count 5 = 0
            count 6 = 0
            count 7 = 2
            """);
    }
}
