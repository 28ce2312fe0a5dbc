/** Promises 6 to 8: create, set, delete. */
public final class ChangeTest {
    public static void main(String[] args) {
        Script script = new Script();
        create(script);
        createInSequence(script);
        createRefused(script);
        set(script);
        delete(script);
        withoutVotes(script);
        fullLog(script);
        script.end();
    }

    private static void create(Script script) {
        script.run("6: a node with its data and no owner", """
            open 0 1 50 = 50
            create 0 6 -7 0 = 6
            get 0 6 false = -7
            fact 0 6 0 = 0
            fact 0 6 1 = 0
            fact 0 6 2 = -1
            fact 0 0 1 = 0
            create 0 42 2147483647 0 = 42
            create 0 258 -2147483648 0 = 258
            get 0 258 false = -2147483648
            fact 0 258 1 = 0
            children 0 42 false = 32
            state 0 0 = 3
            state 2 1 = 3
            state 2 4 = 4
            """);
        script.run("6: an owned node has no children", """
            open 2 1 50 = 50
            open 0 0 50 = 50
            create 2 1 5 1 = 1
            fact 2 1 2 = 2
            create 2 7 5 0 ! UnsupportedOperationException
            create 2 7 5 1 ! UnsupportedOperationException
            create 0 7 5 0 ! UnsupportedOperationException
            create 0 1 5 2 ! UnsupportedOperationException
            create 0 1 5 3 ! UnsupportedOperationException
            state 0 0 = 1
            """);
        script.run("6: made again it is new", """
            open 0 0 50 = 50
            create 0 1 5 1 = 1
            set 0 1 -1 6 = 1
            delete 0 1 -1 = 1
            create 0 1 8 0 = 1
            create 0 1 8 2 = 7
            fact 0 1 0 = 0
            fact 0 1 1 = 1
            fact 0 1 2 = -1
            get 0 1 false = 8
            delete 0 7 0 = 0
            delete 0 1 0 = 0
            create 0 1 8 0 = 1
            fact 0 1 1 = 0
            close 0 = 0
            """);
    }

    private static void createInSequence(Script script) {
        script.run("6: names rise, also over gaps, until 6", """
            open 0 0 50 = 50
            create 0 0 5 2 = 1
            fact 0 0 1 = 1
            create 0 0 6 3 = 2
            fact 0 2 2 = 0
            get 0 2 false = 6
            delete 0 2 -1 = 0
            create 0 0 5 2 = 3
            create 0 5 5 0 = 5
            fact 0 0 1 = 3
            create 0 0 5 2 = 4
            create 0 0 5 2 ! IndexOutOfBoundsException
            create 0 0 5 3 ! IndexOutOfBoundsException
            delete 0 5 -1 = 0
            create 0 0 5 2 = 5
            create 0 0 5 2 = 6
            fact 0 0 1 = 6
            delete 0 6 -1 = 0
            create 0 0 5 2 ! UnsupportedOperationException
            create 0 0 5 3 ! UnsupportedOperationException
            create 0 6 5 0 = 6
            fact 0 0 1 = 6
            """);
        script.run("6: below other nodes", """
            open 0 2 50 = 50
            create 0 6 5 0 = 6
            create 0 42 5 0 = 42
            create 0 42 5 2 = 253
            create 0 42 5 3 = 254
            fact 0 42 1 = 2
            fact 0 0 1 = 0
            create 0 41 5 2 ! NoSuchElementException
            create 0 254 5 0 ! IndexOutOfBoundsException
            """);
        script.run("6: at 6 without SEQUENCE the node is there", """
            open 0 0 50 = 50
            create 0 0 5 2 = 1
            create 0 0 5 2 = 2
            create 0 0 5 2 = 3
            create 0 0 5 2 = 4
            create 0 0 5 2 = 5
            create 0 0 5 2 = 6
            create 0 6 5 0 ! IndexOutOfBoundsException
            create 0 6 5 1 ! IndexOutOfBoundsException
            """);
    }

    private static void createRefused(Script script) {
        script.run("6: numbers out of range, before all else", """
            create -1 1 5 0 ! IllegalArgumentException
            create 4 1 5 0 ! IllegalArgumentException
            create 0 0 5 0 ! IllegalArgumentException
            create 0 0 5 1 ! IllegalArgumentException
            create 0 -1 5 0 ! IllegalArgumentException
            create 0 259 5 0 ! IllegalArgumentException
            create 0 259 5 1 ! IllegalArgumentException
            create 0 -1 5 2 ! IllegalArgumentException
            create 0 43 5 2 ! IllegalArgumentException
            create 0 43 5 3 ! IllegalArgumentException
            create 0 1 5 -1 ! IllegalArgumentException
            create 0 1 5 4 ! IllegalArgumentException
            create 0 1 5 -2147483648 ! IllegalArgumentException
            create 0 1 5 0 ! IllegalStateException
            create 0 42 5 2 ! IllegalStateException
            create 0 258 5 0 ! IllegalStateException
            """);
        script.run("6: does not REACH, before the tests by PLANNED", """
            open 0 2 50 = 50
            create 0 1 5 0 = 1
            alone 2 true = 1
            create 0 2 5 0 ! IllegalStateException
            create 0 1 5 0 ! IllegalStateException
            create 0 99 5 0 ! IllegalStateException
            state 0 0 = 1
            alone 2 false = 1
            crash 2 = 1
            create 0 2 5 0 ! IllegalStateException
            restart 2 = 1
            crash 0 = 1
            create 0 2 5 0 ! IllegalStateException
            state 2 0 = 1
            elect = 1
            create 0 2 5 0 = 2
            """);
        script.run("6: the leader is ALONE, a follower's session does not REACH", """
            open 0 1 50 = 50
            alone 0 true = 1
            create 0 1 5 0 ! IllegalStateException
            state 0 0 = 0
            """);
        script.run("6: in the order told", """
            open 0 0 50 = 50
            create 0 43 5 0 ! NoSuchElementException
            create 0 1 5 1 = 1
            create 0 43 5 0 ! NoSuchElementException
            create 0 1 5 0 ! IndexOutOfBoundsException
            create 0 0 5 2 ! IndexOutOfBoundsException
            state 0 0 = 1
            """);
    }

    private static void set(Script script) {
        script.run("7: data and version", """
            open 0 1 50 = 50
            create 0 1 5 0 = 1
            set 0 1 0 6 = 1
            get 0 1 false = 6
            fact 0 1 0 = 1
            set 0 1 0 7 = -2
            set 0 1 2 7 = -2
            set 0 1 2147483647 7 = -2
            get 0 1 false = 6
            state 0 0 = 2
            set 0 1 1 -8 = 2
            set 0 1 -1 9 = 3
            get 0 1 false = 9
            set 0 0 0 4 = 1
            get 0 0 false = 4
            state 2 1 = 5
            """);
        script.run("7: owner and next stay", """
            open 0 0 50 = 50
            open 3 0 50 = 50
            create 3 1 5 1 = 1
            create 0 2 5 0 = 2
            create 0 2 5 2 = 13
            set 0 1 -1 6 = 1
            set 0 2 -1 6 = 1
            fact 0 1 2 = 3
            fact 0 2 1 = 1
            children 0 2 false = 1
            """);
        script.run("7: refused, in order", """
            set -1 0 -1 5 ! IllegalArgumentException
            set 4 0 -1 5 ! IllegalArgumentException
            set 0 -1 -1 5 ! IllegalArgumentException
            set 0 259 -1 5 ! IllegalArgumentException
            set 0 0 -2 5 ! IllegalArgumentException
            set 0 0 -2147483648 5 ! IllegalArgumentException
            set 0 0 -1 5 ! IllegalStateException
            set 0 258 -1 5 ! IllegalStateException
            open 0 2 50 = 50
            set 0 258 -1 5 ! NoSuchElementException
            set 0 1 0 5 ! NoSuchElementException
            alone 2 true = 1
            set 0 1 0 5 ! IllegalStateException
            set 0 0 7 5 ! IllegalStateException
            state 0 0 = 0
            """);
    }

    private static void delete(Script script) {
        script.run("8: version before, and it goes", """
            open 0 1 50 = 50
            create 0 1 5 0 = 1
            create 0 7 5 0 = 7
            delete 0 1 5 = -2
            delete 0 1 0 ! UnsupportedOperationException
            delete 0 1 -1 ! UnsupportedOperationException
            set 0 7 -1 6 = 1
            set 0 7 -1 6 = 2
            delete 0 7 1 = -2
            delete 0 7 0 = -2
            state 0 0 = 4
            delete 0 7 2 = 2
            exists 0 7 false = false
            state 1 4 = 2
            delete 0 1 0 = 0
            delete 0 1 -1 ! NoSuchElementException
            delete 0 1 3 ! NoSuchElementException
            state 0 4 = 1
            state 0 0 = 6
            """);
        script.run("8: each child hinders, the last path goes", """
            open 0 0 50 = 50
            create 0 6 5 0 = 6
            create 0 42 5 0 = 42
            create 0 258 5 0 = 258
            create 0 1 5 0 = 1
            create 0 7 5 0 = 7
            create 0 43 5 0 = 43
            delete 0 43 -1 = 0
            delete 0 42 -1 ! UnsupportedOperationException
            delete 0 6 -1 ! UnsupportedOperationException
            delete 0 258 -1 = 0
            delete 0 42 -1 = 0
            delete 0 6 -1 = 0
            """);
        script.run("8: NEXT of the parent stays", """
            open 0 0 50 = 50
            create 0 0 5 2 = 1
            delete 0 1 -1 = 0
            fact 0 0 1 = 1
            create 0 0 5 2 = 2
            """);
        script.run("8: another session may delete an owned node", """
            open 0 0 50 = 50
            open 1 0 50 = 50
            create 0 1 5 1 = 1
            delete 1 1 -1 = 0
            close 0 = 0
            state 0 0 = 2
            """);
        script.run("8: refused, in order", """
            delete -1 1 -1 ! IllegalArgumentException
            delete 4 1 -1 ! IllegalArgumentException
            delete 0 0 -1 ! IllegalArgumentException
            delete 0 -1 -1 ! IllegalArgumentException
            delete 0 259 -1 ! IllegalArgumentException
            delete 0 1 -2 ! IllegalArgumentException
            delete 0 1 -1 ! IllegalStateException
            open 0 2 50 = 50
            delete 0 1 -1 ! NoSuchElementException
            delete 0 258 -1 ! NoSuchElementException
            alone 2 true = 1
            delete 0 1 -1 ! IllegalStateException
            delete 0 0 -1 ! IllegalArgumentException
            """);
    }

    private static void withoutVotes(Script script) {
        script.run("6, 7, 8: without QUORUM the entry stays in the leader's LOG", """
            open 0 0 50 = 50
            create 0 1 5 0 = 1
            crash 1 = 1
            crash 2 = 1
            create 0 2 6 0 !+ IllegalStateException
            create 0 2 6 0 ! IndexOutOfBoundsException
            create 0 13 6 0 !+ IllegalStateException
            create 0 1 6 2 !+ IllegalStateException
            create 0 1 6 2 !+ IllegalStateException
            set 0 1 0 7 !+ IllegalStateException
            set 0 1 0 7 = -2
            set 0 1 1 8 !+ IllegalStateException
            delete 0 2 0 ! UnsupportedOperationException
            delete 0 13 0 !+ IllegalStateException
            delete 0 13 0 ! NoSuchElementException
            set 0 13 0 9 ! NoSuchElementException
            delete 0 2 0 !+ IllegalStateException
            state 0 0 = 9
            state 0 1 = 1
            get 0 1 false = 5
            exists 0 2 false = false
            children 0 1 false = 0
            fact 0 1 0 = 0
            fact 0 1 1 = 0
            restart 2 = 9
            get 0 1 false = 8
            fact 0 1 0 = 2
            fact 0 1 1 = 2
            children 0 1 false = 3
            exists 0 2 false = false
            state 2 4 = 4
            state 0 1 = 9
            """);
        script.run("6, 7: PLANNED forgets it of the root too", """
            open 0 0 50 = 50
            open 1 1 50 = 50
            alone 0 true = 1
            create 0 0 5 2 !+ IllegalStateException
            set 0 0 -1 6 !+ IllegalStateException
            elect = 1
            set 1 0 1 7 = -2
            set 1 0 0 7 = 1
            create 1 0 5 2 = 1
            fact 1 0 1 = 1
            """);
        script.run("6: PLANNED forgets what another leader does not have", """
            open 0 0 50 = 50
            open 1 1 50 = 50
            alone 0 true = 1
            create 0 1 5 1 !+ IllegalStateException
            create 0 0 5 3 ! IndexOutOfBoundsException
            create 0 2 5 0 !+ IllegalStateException
            create 0 2 5 2 !+ IllegalStateException
            elect = 1
            create 1 13 6 0 ! NoSuchElementException
            create 1 0 6 2 = 1
            create 1 2 6 0 = 2
            create 1 2 6 2 = 13
            alone 0 false = 1
            get 0 1 false = 6
            fact 0 1 2 = -1
            close 0 = 0
            state 0 0 = 3
            """);
    }

    private static void fullLog(Script script) {
        StringBuilder full = new StringBuilder("""
            open 0 0 50 = 50
            open 1 1 50 = 50
            create 0 1 5 0 = 1
            create 0 2 5 1 = 2
            create 1 3 5 1 = 3
            create 0 7 5 0 = 7
            """);
        for (int i = 1; i <= 55; i++) {
            full.append("set 0 0 -1 9 = ").append(i).append("\n");
        }
        script.run("6, 7, 8: the 60th entry still goes", full + """
            state 0 0 = 59
            create 0 4 5 0 = 4
            state 2 1 = 60
            """);
        script.run("6, 7, 8: 60 entries, and what is tested before", full + """
            set 1 0 -1 8 = 56
            state 1 0 = 60
            create 0 4 5 0 ! IllegalStateException
            create 0 0 5 2 ! IndexOutOfBoundsException
            create 0 99 5 0 ! NoSuchElementException
            create 0 13 5 0 ! UnsupportedOperationException
            create 0 1 5 0 ! IndexOutOfBoundsException
            set 0 0 -1 8 ! IllegalStateException
            set 0 0 5 8 = -2
            set 0 99 -1 8 ! NoSuchElementException
            delete 0 7 -1 ! IllegalStateException
            delete 0 7 4 = -2
            delete 0 99 -1 ! NoSuchElementException
            delete 0 1 -1 ! UnsupportedOperationException
            state 0 0 = 60
            get 0 0 false = 8
            close 0 = 1
            state 0 0 = 61
            set 1 0 -1 8 ! IllegalStateException
            tick 20 = 0
            tick 20 = 0
            tick 10 = 1
            state 0 0 = 62
            state 2 1 = 62
            state 2 4 = 3
            """);
        script.run("6: full without QUORUM nothing is put in the LOG", full + """
            alone 0 true = 1
            set 0 0 -1 8 !+ IllegalStateException
            state 0 0 = 60
            set 0 0 -1 8 ! IllegalStateException
            state 0 0 = 60
            """);
    }
}
