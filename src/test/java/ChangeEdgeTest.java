/** Promises 6 to 8: one run for each sentence that names an edge; the titles are the document's words. */
public final class ChangeEdgeTest {
    private static final String FOUR = """
        open 0 0 50 = 50
        open 1 1 50 = 50
        open 2 2 50 = 50
        open 3 0 50 = 50
        """;
    /** The nodes above path 258, and one with a child. */
    private static final String NODES = FOUR + """
        create 0 6 5 0 = 6
        create 0 42 5 0 = 42
        create 0 2 5 0 = 2
        create 0 13 5 0 = 13
        """;
    /** NODES and what makes 59 ENTRIES of it. */
    private static final String ALMOST_FULL = NODES + Script.sets(1, 55);
    private static final String FULL = ALMOST_FULL + Script.sets(56, 56);

    public static void main(String[] args) {
        Script script = new Script();
        createRanges(script);
        createMakes(script);
        createInSequence(script);
        createByPlanned(script);
        setEdges(script);
        setVersions(script);
        deleteEdges(script);
        deleteVersionsAndChildren(script);
        noReach(script);
        noQuorum(script);
        noQuorumButTestedBefore(script);
        sixtyEntries(script);
        sixtyEntriesOfTheLeader(script);
        script.end();
    }

    private static void createRanges(Script script) {
        script.range("6: session 0 .. 3", FOUR, "create # 1 5 0", 0, 3);
        script.run("6: flags 0 .. 3", FOUR + """
            create 0 1 5 0 = 1
            create 0 1 5 3 = 7
            create 0 2 5 -1 ! IllegalArgumentException
            create 0 2 5 4 ! IllegalArgumentException
            create 0 2 5 5 ! IllegalArgumentException
            create 0 2 5 -2147483648 ! IllegalArgumentException
            create 0 2 5 2147483647 ! IllegalArgumentException
            """);
        script.run("6: flags 0 .. 3, before any other test", """
            create 0 1 5 -1 ! IllegalArgumentException
            create 0 1 5 4 ! IllegalArgumentException
            """);
        script.range("6: flags 0, 1: a path 1 .. 258", NODES, "create 0 # 5 0", 1, 258);
        script.range("6: flags 0, 1: a path 1 .. 258", NODES, "create 0 # 5 1", 1, 258);
        script.range("6: flags 2, 3: a path 0 .. 42", NODES, "create 0 # 5 2", 0, 42);
        script.range("6: flags 2, 3: a path 0 .. 42", NODES, "create 0 # 5 3", 0, 42);
        script.range("6: any data", FOUR, "create 0 1 # 0", Integer.MIN_VALUE, Integer.MAX_VALUE);
    }

    private static void createMakes(Script script) {
        script.run("6: flags 0: no OWNER", FOUR + """
            create 3 1 5 0 = 1
            fact 3 1 2 = -1
            """);
        script.run("6: flags 1: the session is its OWNER", FOUR + """
            create 3 1 5 1 = 1
            fact 3 1 2 = 3
            create 0 2 5 1 = 2
            fact 3 2 2 = 0
            """);
        script.run("6: flags 2: in SEQUENCE, no OWNER", FOUR + """
            create 3 0 5 2 = 1
            fact 3 1 2 = -1
            fact 3 0 1 = 1
            """);
        script.run("6: flags 3: in SEQUENCE, the session is its OWNER", FOUR + """
            create 3 0 5 3 = 1
            fact 3 1 2 = 3
            fact 3 0 1 = 1
            """);
        script.run("6: the least and the greatest data", FOUR + """
            create 0 1 -2147483648 0 = 1
            create 0 2 2147483647 0 = 2
            get 0 1 false = -2147483648
            get 0 2 false = 2147483647
            """);
        script.run("6: a VERSION 0, a NEXT 0, also where a node was before", FOUR + """
            create 0 1 5 0 = 1
            set 0 1 -1 6 = 1
            create 0 1 5 2 = 7
            delete 0 7 -1 = 0
            delete 0 1 -1 = 1
            create 0 1 8 0 = 1
            fact 0 1 0 = 0
            fact 0 1 1 = 0
            get 0 1 false = 8
            """);
        script.run("6: answers the node's path", NODES + """
            create 0 258 5 0 = 258
            create 0 1 5 1 = 1
            """);
        script.run("6: every child of 42, the last path with children", NODES + """
            create 0 252 5 0 ! NoSuchElementException
            create 0 253 5 0 = 253
            create 0 258 5 0 = 258
            children 0 42 false = 33
            """);
    }

    private static void createInSequence(Script script) {
        script.run("6: with its NEXT as NAME, 0 at first, then NAME plus 1", NODES + """
            create 0 42 5 2 = 253
            fact 0 42 1 = 1
            create 0 42 5 2 = 254
            create 0 42 5 2 = 255
            create 0 42 5 2 = 256
            create 0 42 5 2 = 257
            fact 0 42 1 = 5
            create 0 42 5 2 = 258
            fact 0 42 1 = 6
            """);
        script.run("6: only in SEQUENCE the parent's NEXT rises", FOUR + """
            create 0 1 5 0 = 1
            create 0 2 5 1 = 2
            fact 0 0 1 = 0
            """);
        script.run("6: in SEQUENCE its NEXT is 6: UnsupportedOperationException", FOUR + six() + """
            create 0 0 5 2 ! UnsupportedOperationException
            create 0 0 5 3 ! UnsupportedOperationException
            """);
        script.run("6: its NEXT is 6, though all its children are gone", FOUR + six() + """
            delete 0 1 -1 = 0
            delete 0 2 -1 = 0
            delete 0 3 -1 = 0
            delete 0 4 -1 = 0
            delete 0 5 -1 = 0
            delete 0 6 -1 = 0
            create 0 0 5 2 ! UnsupportedOperationException
            create 0 1 5 0 = 1
            create 0 6 5 0 = 6
            """);
        script.run("6: its NEXT is 6 goes before the node is there: path 7 is no child of the root", FOUR + six() + """
            create 0 7 5 0 = 7
            create 0 0 5 2 ! UnsupportedOperationException
            """);
        script.run("6: the NEXT of another parent is its own", FOUR + six() + """
            create 0 1 5 2 = 7
            create 0 6 5 2 = 37
            """);
        script.run("6: the node is there, in SEQUENCE: IndexOutOfBoundsException, NEXT stays", FOUR + """
            create 0 1 5 0 = 1
            create 0 0 5 2 ! IndexOutOfBoundsException
            create 0 0 5 3 ! IndexOutOfBoundsException
            fact 0 0 1 = 0
            delete 0 1 -1 = 0
            create 0 0 5 2 = 1
            """);
        script.run("6: the node is there, in SEQUENCE, at the last NAME", FOUR + """
            create 0 0 5 2 = 1
            create 0 0 5 2 = 2
            create 0 0 5 2 = 3
            create 0 0 5 2 = 4
            create 0 0 5 2 = 5
            create 0 6 5 0 = 6
            create 0 0 5 2 ! IndexOutOfBoundsException
            fact 0 0 1 = 5
            """);
    }

    private static String six() {
        StringBuilder text = new StringBuilder();
        for (int path = 1; path <= 6; path++) {
            text.append("create 0 0 5 2 = ").append(path).append("\n");
        }
        return text.toString();
    }

    private static void createByPlanned(Script script) {
        script.run("6: the parent is not there: NoSuchElementException", FOUR + """
            create 0 7 5 0 ! NoSuchElementException
            create 0 258 5 1 ! NoSuchElementException
            create 0 1 5 2 ! NoSuchElementException
            create 0 42 5 3 ! NoSuchElementException
            """);
        script.run("6: the parent is not there any more", FOUR + """
            create 0 1 5 0 = 1
            delete 0 1 -1 = 0
            create 0 7 5 0 ! NoSuchElementException
            """);
        script.run("6: the parent has an OWNER: UnsupportedOperationException", FOUR + """
            create 0 1 5 1 = 1
            create 3 2 5 1 = 2
            create 0 7 5 0 ! UnsupportedOperationException
            create 0 7 5 1 ! UnsupportedOperationException
            create 0 1 5 2 ! UnsupportedOperationException
            create 3 12 5 1 ! UnsupportedOperationException
            create 0 13 5 0 ! UnsupportedOperationException
            create 0 2 5 3 ! UnsupportedOperationException
            """);
        script.run("6: the parent had an OWNER, who is gone, and was made anew", FOUR + """
            create 3 1 5 1 = 1
            close 3 = 1
            create 0 7 5 0 ! NoSuchElementException
            create 0 1 5 0 = 1
            create 0 7 5 0 = 7
            """);
        script.run("6: the node is there: IndexOutOfBoundsException", NODES + """
            create 0 6 5 0 ! IndexOutOfBoundsException
            create 0 6 5 1 ! IndexOutOfBoundsException
            create 1 13 5 0 ! IndexOutOfBoundsException
            create 0 1 5 1 = 1
            create 2 1 5 0 ! IndexOutOfBoundsException
            """);
        script.run("6: all tests by PLANNED, not by the TREE of its server", FOUR + """
            alone 0 true = 1
            create 0 1 5 0 !+ IllegalStateException
            exists 0 1 false = false
            create 0 1 5 0 ! IndexOutOfBoundsException
            create 0 0 5 2 ! IndexOutOfBoundsException
            create 0 2 5 1 !+ IllegalStateException
            create 0 13 5 0 ! UnsupportedOperationException
            create 0 7 5 0 !+ IllegalStateException
            create 0 3 5 2 ! NoSuchElementException
            """);
    }

    private static void setEdges(Script script) {
        script.range("7: session 0 .. 3", FOUR, "set # 0 -1 5", 0, 3);
        script.range("7: a path 0 .. 258", NODES + "create 0 258 5 0 = 258", "set 0 # -1 5", 0, 258);
        script.range("7: version -1 or above", FOUR, "set 0 0 # 5", -1, Integer.MAX_VALUE);
        script.range("7: any data", FOUR, "set 0 0 -1 #", Integer.MIN_VALUE, Integer.MAX_VALUE);
        script.run("7: the least and the greatest data", FOUR + """
            set 0 0 -1 -2147483648 = 1
            get 0 0 false = -2147483648
            set 0 0 -1 2147483647 = 2
            get 0 0 false = 2147483647
            """);
        script.run("7: the node is not there: NoSuchElementException", FOUR + """
            set 0 1 -1 5 ! NoSuchElementException
            set 0 258 0 5 ! NoSuchElementException
            create 0 1 5 0 = 1
            delete 0 1 -1 = 0
            set 0 1 -1 5 ! NoSuchElementException
            set 0 1 0 5 ! NoSuchElementException
            """);
        script.run("7: the node of another session", FOUR + """
            create 3 1 5 1 = 1
            set 0 1 0 6 = 1
            fact 0 1 2 = 3
            """);
    }

    private static void setVersions(Script script) {
        script.run("7: version is its VERSION", FOUR + """
            set 0 0 0 5 = 1
            set 0 0 1 6 = 2
            get 0 0 false = 6
            """);
        script.run("7: version is -1", FOUR + """
            set 0 0 -1 5 = 1
            set 0 0 -1 6 = 2
            """);
        script.run("7: version is neither: answers OTHER and changes nothing", FOUR + """
            set 0 0 1 5 = -2
            set 0 0 2147483647 5 = -2
            set 0 0 0 5 = 1
            set 0 0 0 6 = -2
            set 0 0 2 6 = -2
            get 0 0 false = 5
            state 0 0 = 1
            """);
        script.run("7: by PLANNED", FOUR + """
            alone 0 true = 1
            set 0 0 0 5 !+ IllegalStateException
            set 0 0 0 6 = -2
            state 0 0 = 1
            set 0 0 1 6 !+ IllegalStateException
            fact 0 0 0 = 0
            """);
        script.run("7: answers its new VERSION", FOUR + Script.sets(1, 60) + """
            fact 2 0 0 = 60
            """);
    }

    private static void deleteEdges(Script script) {
        String nodes = NODES + """
            create 0 258 5 0 = 258
            create 0 1 5 0 = 1
            """;
        script.range("8: session 0 .. 3", nodes, "delete # 1 -1", 0, 3);
        script.range("8: path 1 .. 258", nodes, "delete 0 # -1", 1, 258);
        script.range("8: version -1 or above", nodes, "delete 0 1 #", -1, Integer.MAX_VALUE);
        script.run("8: path 1 .. 258: not the root, whatever is below it", FOUR + """
            delete 0 0 -1 ! IllegalArgumentException
            create 0 1 5 0 = 1
            delete 0 0 -1 ! IllegalArgumentException
            """);
        script.run("8: the node is not there: NoSuchElementException", NODES + """
            delete 0 1 -1 ! NoSuchElementException
            delete 0 258 0 ! NoSuchElementException
            delete 0 13 0 = 0
            delete 0 13 0 ! NoSuchElementException
            """);
        script.run("8: the node of another session", FOUR + """
            create 3 1 5 1 = 1
            delete 0 1 0 = 0
            state 2 4 = 1
            """);
    }

    private static void deleteVersionsAndChildren(Script script) {
        script.run("8: as set: version is neither -1 nor its VERSION: answers OTHER and changes nothing", NODES + """
            delete 0 13 1 = -2
            delete 0 13 2147483647 = -2
            set 0 13 -1 6 = 1
            delete 0 13 0 = -2
            delete 0 13 2 = -2
            state 0 0 = 5
            exists 0 13 false = true
            delete 0 13 1 = 1
            """);
        script.run("8: the node has children: UnsupportedOperationException", NODES + """
            delete 0 2 -1 ! UnsupportedOperationException
            delete 0 2 0 ! UnsupportedOperationException
            delete 0 13 -1 = 0
            delete 0 2 -1 = 0
            """);
        script.run("8: the node has children: the first name, the last name", NODES + """
            create 0 253 5 0 = 253
            delete 0 42 -1 ! UnsupportedOperationException
            delete 0 253 -1 = 0
            create 0 258 5 0 = 258
            delete 0 42 -1 ! UnsupportedOperationException
            delete 0 258 -1 = 0
            delete 0 42 -1 = 0
            """);
        script.run("8: but after the VERSION: OTHER goes before the children", NODES + """
            delete 0 2 1 = -2
            """);
        script.run("8: only paths below 43 have children", NODES + """
            create 0 7 5 0 ! NoSuchElementException
            create 0 1 5 0 = 1
            create 0 7 5 0 = 7
            create 0 43 5 0 = 43
            delete 0 43 -1 = 0
            """);
        script.run("8: children by PLANNED", NODES + """
            alone 0 true = 1
            delete 0 13 -1 !+ IllegalStateException
            exists 0 13 false = true
            delete 0 2 -1 !+ IllegalStateException
            delete 0 2 -1 ! NoSuchElementException
            create 0 36 5 0 ! NoSuchElementException
            create 0 37 5 0 !+ IllegalStateException
            children 0 6 false = 32
            delete 0 6 -1 ! UnsupportedOperationException
            """);
        script.run("8: answers its VERSION before", NODES + """
            set 0 13 -1 6 = 1
            set 0 13 -1 6 = 2
            delete 0 13 -1 = 2
            delete 0 2 0 = 0
            """);
    }

    private static void noReach(Script script) {
        for (String cut : new String[] {"crash 1", "alone 1 true", "crash 0", "alone 0 true"}) {
            script.run("6, 7, 8: it does not REACH, before the tests by PLANNED: " + cut, NODES + cut + "\n" + """
                create 1 1 5 0 ! IllegalStateException
                create 1 0 5 2 ! IllegalStateException
                create 1 7 5 0 ! IllegalStateException
                create 1 6 5 0 ! IllegalStateException
                set 1 6 -1 7 ! IllegalStateException
                set 1 6 3 7 ! IllegalStateException
                set 1 1 -1 7 ! IllegalStateException
                delete 1 13 -1 ! IllegalStateException
                delete 1 13 3 ! IllegalStateException
                delete 1 2 -1 ! IllegalStateException
                delete 1 1 -1 ! IllegalStateException
                """);
        }
        script.run("6, 7, 8: it does not REACH: not OPEN, before the tests by PLANNED", """
            create 0 1 5 0 ! IllegalStateException
            create 0 7 5 0 ! IllegalStateException
            set 0 0 -1 5 ! IllegalStateException
            set 0 0 7 5 ! IllegalStateException
            set 0 1 -1 5 ! IllegalStateException
            delete 0 1 -1 ! IllegalStateException
            """);
        script.run("6, 7, 8: it REACHES if its server is LINKED, though another one is not", NODES + """
            crash 2 = 4
            create 1 1 5 0 = 1
            set 1 1 -1 6 = 1
            delete 1 1 -1 = 1
            """);
        script.run("6, 7, 8: a number out of range goes first, though it does not REACH", FOUR + """
            crash 1 = 0
            create 1 259 5 0 ! IllegalArgumentException
            create 1 43 5 2 ! IllegalArgumentException
            set 1 0 -2 5 ! IllegalArgumentException
            delete 1 0 -1 ! IllegalArgumentException
            """);
    }

    private static void noQuorum(Script script) {
        for (String cut : new String[] {"alone 0 true", "crash 1\ncrash 2", "crash 1\nalone 2 true"}) {
            script.run("6: there is no QUORUM: the ENTRY stays in the LOG: " + cut, NODES + cut + "\n" + """
                create 0 1 5 0 !+ IllegalStateException
                create 0 0 5 3 ! IndexOutOfBoundsException
                create 0 42 5 3 !+ IllegalStateException
                state 0 0 = 6
                state 0 1 = 4
                state 1 0 = 4
                state 2 0 = 4
                exists 0 1 false = false
                """);
            script.run("7: there is no QUORUM: the ENTRY stays in the LOG: " + cut, NODES + cut + "\n" + """
                set 0 6 0 7 !+ IllegalStateException
                set 0 6 1 7 !+ IllegalStateException
                state 0 0 = 6
                state 0 1 = 4
                state 1 0 = 4
                get 0 6 false = 5
                """);
            script.run("8: there is no QUORUM: the ENTRY stays in the LOG: " + cut, NODES + cut + "\n" + """
                delete 0 13 0 !+ IllegalStateException
                delete 0 2 -1 !+ IllegalStateException
                state 0 0 = 6
                state 0 1 = 4
                state 1 0 = 4
                exists 0 13 false = true
                """);
        }
        script.run("6, 7, 8: what stays is APPLIED when there is QUORUM again", NODES + """
            alone 0 true = 1
            create 0 1 5 0 !+ IllegalStateException
            set 0 6 0 7 !+ IllegalStateException
            delete 0 13 0 !+ IllegalStateException
            alone 0 false = 1
            exists 1 1 false = true
            get 2 6 false = 7
            exists 0 13 false = false
            state 2 1 = 7
            """);
        script.run("6, 7, 8: what the LEADER has not APPLIED is lost when another one leads", NODES + """
            alone 0 true = 1
            create 0 1 5 0 !+ IllegalStateException
            set 0 6 0 7 !+ IllegalStateException
            delete 0 13 0 !+ IllegalStateException
            elect = 1
            alone 0 false = 1
            exists 0 1 false = false
            get 0 6 false = 5
            exists 0 13 false = true
            state 0 1 = 4
            create 0 1 5 0 = 1
            set 0 6 0 7 = 1
            delete 0 13 0 = 0
            """);
    }

    private static void noQuorumButTestedBefore(Script script) {
        script.run("6, 7: what is lost is lost of the root too: its VERSION, its NEXT", FOUR + """
            alone 0 true = 1
            set 0 0 -1 6 !+ IllegalStateException
            create 0 0 5 2 !+ IllegalStateException
            elect = 1
            set 1 0 1 7 = -2
            set 1 0 0 7 = 1
            create 1 0 5 2 = 1
            """);
        script.run("6, 7, 8: there is no QUORUM, but the tests before go first", NODES + """
            create 0 1 5 1 = 1
            alone 0 true = 1
            create 0 13 5 0 ! IndexOutOfBoundsException
            create 0 7 5 0 ! UnsupportedOperationException
            create 0 19 5 0 ! NoSuchElementException
            set 0 19 -1 5 ! NoSuchElementException
            set 0 6 7 5 = -2
            delete 0 19 -1 ! NoSuchElementException
            delete 0 2 7 = -2
            delete 0 2 0 ! UnsupportedOperationException
            state 0 0 = 5
            """);
    }

    private static void sixtyEntries(Script script) {
        script.run("6: 59 ENTRIES are not 60: create", ALMOST_FULL + """
            state 0 0 = 59
            create 0 1 5 0 = 1
            state 2 1 = 60
            """);
        script.run("7: 59 ENTRIES are not 60: set", ALMOST_FULL + """
            set 1 6 0 7 = 1
            state 2 1 = 60
            """);
        script.run("8: 59 ENTRIES are not 60: delete", ALMOST_FULL + """
            delete 2 13 0 = 0
            state 2 1 = 60
            """);
        script.run("6: the LEADER's LOG has 60 ENTRIES: IllegalStateException, and no ENTRY stays", FULL + """
            create 0 1 5 0 ! IllegalStateException
            create 0 1 5 1 ! IllegalStateException
            create 0 0 5 2 ! IllegalStateException
            create 1 0 5 3 ! IllegalStateException
            state 0 0 = 60
            """);
        script.run("7: 60 ENTRIES as for create", FULL + """
            set 0 0 -1 5 ! IllegalStateException
            set 1 0 56 5 ! IllegalStateException
            state 0 0 = 60
            """);
        script.run("8: 60 ENTRIES as for create", FULL + """
            delete 0 13 -1 ! IllegalStateException
            delete 1 13 0 ! IllegalStateException
            state 0 0 = 60
            """);
        script.run("6: the tests by PLANNED go before the 60 ENTRIES", FULL + """
            create 0 7 5 0 ! NoSuchElementException
            create 0 6 5 0 ! IndexOutOfBoundsException
            """);
        script.run("7: the node and OTHER, then 60 ENTRIES", FULL + """
            set 0 1 -1 5 ! NoSuchElementException
            set 0 0 55 5 = -2
            """);
        script.run("8: the node, OTHER and the children, then 60 ENTRIES", FULL + """
            delete 0 1 -1 ! NoSuchElementException
            delete 0 2 1 = -2
            delete 0 2 -1 ! UnsupportedOperationException
            """);
        script.run("6, 7, 8: or more", NODES + "create 3 3 5 1 = 3\n" + Script.sets(1, 55) + """
            close 3 = 1
            state 0 0 = 61
            create 0 1 5 0 ! IllegalStateException
            set 0 0 -1 5 ! IllegalStateException
            delete 0 13 -1 ! IllegalStateException
            """);
    }

    private static void sixtyEntriesOfTheLeader(Script script) {
        script.run("6, 7, 8: 60 ENTRIES without QUORUM: none stays beyond them", ALMOST_FULL + """
            alone 0 true = 1
            set 0 0 -1 5 !+ IllegalStateException
            state 0 0 = 60
            set 0 0 -1 5 ! IllegalStateException
            create 0 1 5 0 ! IllegalStateException
            delete 0 13 -1 ! IllegalStateException
            """);
        script.run("6: it is the LEADER's LOG that counts: another one may be full", ALMOST_FULL + """
            alone 0 true = 1
            set 0 0 -1 5 !+ IllegalStateException
            elect = 1
            state 0 0 = 60
            state 1 0 = 59
            create 1 1 5 0 = 1
            state 1 0 = 60
            create 1 3 5 0 ! IllegalStateException
            """);
        script.run("6: it is the LEADER's LOG that counts: that of its own server may be short", FOUR + """
            alone 1 true = 1
            """ + Script.sets(1, 60) + """
            move 1 2 = 1
            create 1 1 5 0 ! IllegalStateException
            state 1 0 = 0
            """);
        script.run("6: a CLOSE is PROPOSED behind 60 ENTRIES, one for each session", FOUR + """
            create 0 1 5 1 = 1
            create 1 2 5 1 = 2
            create 2 3 5 1 = 3
            create 3 4 5 1 = 4
            """ + Script.sets(1, 56) + """
            state 0 0 = 60
            close 1 = 1
            close 2 = 1
            close 3 = 1
            close 0 = 1
            state 0 0 = 64
            state 2 1 = 64
            state 2 4 = 1
            open 0 0 50 = 50
            close 0 = 0
            state 0 0 = 64
            """);
    }
}
