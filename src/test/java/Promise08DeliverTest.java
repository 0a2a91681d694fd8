/** Promise 8: deliver, and with it what each message makes its node do. */
public final class Promise08DeliverTest {
    public static void main(String[] args) {
        order();
        stamps();
        token();
        tree();
        election();
        work();
        wrongInputs();
        Run.end();
    }

    private static void order() {
        Run.of("a channel keeps the order of all services", """
            begin 1 = done; spread 1 2 = done; start 1 = done; want 1 1 = done; want 0 1 = done
            waiting 1 2 = 4; deliver 1 2 = 4; deliver 1 2 = 3; deliver 1 2 = 1; deliver 1 2 = 0
            waiting 1 2 = 0; deliver 1 2 = throws.NoSuchElementException
            spread 1 2 = done; deliver 1 2 = 4
            """);
        Run.of("a channel leads one way", """
            want 0 0 = done; deliver 1 0 = throws.NoSuchElementException
            waiting 0 1 = 1; deliver 0 1 = 0; waiting 0 1 = 0; waiting 0 2 = 1; waiting 1 0 = 1
            """);
    }

    private static void stamps() {
        Run.of("REQUEST, who is idle replies, and its clock follows", """
            want 0 3 = done; deliver 3 0 = 0; more 0 0 = 1; first 0 3 = 10; about 0 0 = 0
            deliver 3 1 = 0; deliver 3 2 = 0
            deliver 0 3 = 0; about 0 3 = 1; deliver 1 3 = 0; about 0 3 = 1
            deliver 2 3 = 0; about 0 3 = 2; count 0 = 1; more 0 3 = 1
            """);
        Run.of("REQUEST, a lesser stamp does not turn the clock back", """
            want 0 0 = done; deliver 0 1 = 0; want 0 1 = done; more 0 1 = 2
            want 0 2 = done; more 0 2 = 1; deliver 2 1 = 0; more 0 1 = 2
            # 1 waits with 2, so the stamp 1 is before it
            first 1 2 = 1; waiting 1 2 = 2
            """);
        Run.of("REQUEST, of the same stamps the lesser number is before", """
            want 0 1 = done; want 0 2 = done; want 0 0 = done
            deliver 1 2 = 0; first 2 1 = 1; waiting 2 1 = 2
            deliver 2 1 = 0; waiting 1 2 = 0
            deliver 0 1 = 0; waiting 1 0 = 2
            deliver 1 0 = 0; waiting 0 1 = 0
            """);
        Run.of("REQUEST, the stamp counts, not the clock", """
            want 0 0 = done; deliver 0 1 = 0; want 0 1 = done
            deliver 1 2 = 0; want 0 2 = done; more 0 2 = 3
            # the clock of 0 becomes 3, its stamp is 1 still: 1 with 2 is put off
            deliver 2 0 = 0; more 0 0 = 3; waiting 0 2 = 1
            deliver 1 0 = 0; deliver 1 0 = 0; waiting 0 1 = 0; more 0 0 = 3; about 0 0 = 1
            """);
        Run.of("REQUEST, who is in puts off", """
            want 0 1 = done
            deliver 1 0 = 0; deliver 0 1 = 0; deliver 1 2 = 0; deliver 2 1 = 0; deliver 1 3 = 0; deliver 3 1 = 0
            about 0 1 = 2; want 0 0 = done; deliver 0 1 = 0; waiting 1 0 = 0; more 0 1 = 2; count 1 = 9
            """);
    }

    private static void token() {
        Run.of("REQUEST, the idle keeper sends the token", """
            want 1 3 = done; deliver 3 0 = 1; first 0 3 = 110; about 1 3 = 1; count 0 = 0
            deliver 0 3 = 1; about 1 3 = 2; count 0 = 1; more 1 3 = 1; count 1 = 4
            """);
        Run.of("REQUEST, one that has no token sends nothing", """
            want 1 3 = done; deliver 3 1 = 1; deliver 3 2 = 1; waiting 1 3 = 0; waiting 2 3 = 0; count 1 = 3
            deliver 3 0 = 1; want 1 2 = done; deliver 2 0 = 1; waiting 0 2 = 0; waiting 0 3 = 1
            """);
        Run.of("REQUEST, who is in keeps the token", """
            want 1 0 = done; want 1 3 = done; deliver 3 0 = 1; waiting 0 3 = 0; about 1 0 = 2
            """);
        Run.of("REQUEST, one that is done brings no token, a newer one does", """
            want 1 1 = done; deliver 1 0 = 1; deliver 0 1 = 1; leave 1 1 = done
            want 1 2 = done; deliver 2 1 = 1; deliver 1 2 = 1; deliver 1 2 = 1; about 1 2 = 2; leave 1 2 = done
            want 1 1 = done; more 1 1 = 2; want 1 3 = done
            # 3 asks in turn, and gets both requests of 1 late
            deliver 3 2 = 1; deliver 2 3 = 1; about 1 3 = 1; deliver 2 3 = 1; about 1 3 = 2; leave 1 3 = done
            deliver 1 3 = 1; waiting 3 1 = 1; first 3 1 = 100
            deliver 1 3 = 1; waiting 3 1 = 2
            deliver 3 1 = 1; deliver 3 1 = 1; about 1 1 = 2; more 1 1 = 2
            """);
        Run.of("REQUEST, what came late does not lower the count", """
            want 1 1 = done; deliver 1 0 = 1; deliver 0 1 = 1; leave 1 1 = done
            want 1 0 = done; deliver 0 1 = 1; deliver 1 0 = 1; about 1 0 = 2
            want 1 1 = done; more 1 1 = 2; deliver 1 0 = 1; leave 1 0 = done; first 0 1 = 110
            """);
    }

    private static void tree() {
        Run.of("REQUEST and PRIVILEGE, along the whole way", """
            want 2 3 = done; deliver 3 1 = 2; first 1 0 = 200; about 2 1 = 0
            deliver 1 0 = 2; first 0 1 = 210; more 2 0 = 1
            deliver 0 1 = 2; first 1 3 = 210; more 2 1 = 3; about 2 1 = 0
            deliver 1 3 = 2; more 2 3 = 3; about 2 3 = 2; count 0 = 1; count 1 = 4
            want 2 2 = done; deliver 2 0 = 2; first 0 1 = 200; deliver 0 1 = 2; first 1 3 = 200
            deliver 1 3 = 2; waiting 3 1 = 0
            leave 2 3 = done; deliver 3 1 = 2; deliver 1 0 = 2; deliver 0 2 = 2
            about 2 2 = 2; more 2 0 = 2; more 2 1 = 0; more 2 2 = 2; more 2 3 = 1
            """);
        Run.of("REQUEST, the idle holder gives the privilege at once", """
            want 2 1 = done; deliver 1 0 = 2; deliver 0 1 = 2; about 2 1 = 2; leave 2 1 = done; more 2 1 = 1
            want 2 3 = done; deliver 3 1 = 2; first 1 3 = 210; more 2 1 = 3; waiting 1 0 = 0
            """);
        Run.of("REQUEST, the queue is served in its order, oneself as any other", """
            want 2 0 = done; want 2 3 = done; deliver 3 1 = 2; want 2 1 = done; deliver 1 0 = 2; count 1 = 2
            leave 2 0 = done; deliver 0 1 = 2
            # 1 serves 3 first, and asks the privilege back for itself
            about 2 1 = 1; more 2 1 = 3; first 1 3 = 211; deliver 1 3 = 2; about 2 3 = 2; deliver 1 3 = 2
            leave 2 3 = done; more 2 3 = 1; deliver 3 1 = 2; about 2 1 = 2; more 2 1 = 1; waiting 1 3 = 0
            """);
        Run.of("REQUEST, who comes behind one who asked is asked for later", """
            want 2 1 = done; want 2 3 = done; deliver 3 1 = 2; waiting 1 0 = 1
            deliver 1 0 = 2; deliver 0 1 = 2; about 2 1 = 2; waiting 1 3 = 0
            want 2 0 = done; first 0 1 = 200; deliver 0 1 = 2
            leave 2 1 = done; first 1 3 = 211; deliver 1 3 = 2; about 2 3 = 2; deliver 1 3 = 2
            leave 2 3 = done; deliver 3 1 = 2; first 1 0 = 210; deliver 1 0 = 2; about 2 0 = 2
            more 2 0 = 0; more 2 1 = 0; more 2 3 = 1; count 0 = 3
            """);
    }

    private static void election() {
        Run.of("ELECT, the greatest ID wins and tells all", """
            start 0 = done
            deliver 0 1 = 3; more 3 1 = 1037; first 1 2 = 300; deliver 1 2 = 3; more 3 2 = 1067
            deliver 2 3 = 3; more 3 3 = 1097; deliver 3 0 = 3; more 3 0 = 1007
            deliver 0 1 = 3; deliver 1 2 = 3; deliver 2 3 = 3; more 3 3 = 97; about 3 3 = 97; first 3 0 = 310
            about 3 0 = -1; deliver 3 0 = 3; about 3 0 = 97; more 3 0 = 7; first 0 1 = 310
            deliver 0 1 = 3; about 3 1 = 97; more 3 1 = 37; deliver 1 2 = 3; about 3 2 = 97; more 3 2 = 67
            # the leader's own LEADER ends its way
            deliver 2 3 = 3; waiting 3 0 = 0; count 1 = 11
            """);
        Run.of("ELECT, below the own ID it ends at one who takes part", """
            start 1 = done; start 0 = done; deliver 0 1 = 3; waiting 1 2 = 1; more 3 1 = 1037; count 1 = 2
            """);
        Run.of("ELECT, above the own ID it goes on, though one takes part", """
            start 3 = done; start 0 = done; deliver 3 0 = 3; waiting 0 1 = 2; more 3 0 = 1007
            deliver 0 1 = 3; more 3 1 = 1037; deliver 0 1 = 3; waiting 1 2 = 2
            # 1's own, then 97: at 2 the first wakes it, the second goes on
            deliver 1 2 = 3; more 3 2 = 1067; deliver 1 2 = 3; waiting 2 3 = 2
            deliver 2 3 = 3; waiting 3 0 = 0; about 3 3 = -1; deliver 2 3 = 3; first 3 0 = 310; about 3 3 = 97
            """);
        new Run("ELECT, the greatest ID in the middle of the ring", 50, 40).calls("""
            more 3 1 = 90; start 2 = done; deliver 2 3 = 3; more 3 3 = 1069; deliver 3 0 = 3; more 3 0 = 1050
            deliver 0 1 = 3; more 3 1 = 1090; deliver 1 2 = 3; deliver 2 3 = 3; deliver 3 0 = 3; deliver 0 1 = 3
            about 3 1 = 90; more 3 1 = 90
            deliver 1 2 = 3; deliver 2 3 = 3; deliver 3 0 = 3; about 3 0 = 90; about 3 2 = 90; about 3 3 = 90
            more 3 0 = 50; more 3 2 = 29; more 3 3 = 69; deliver 0 1 = 3; waiting 1 2 = 0
            """);
        Run.of("LEADER, a later election changes nothing that is known until it is over", """
            start 3 = done; deliver 3 0 = 3; deliver 0 1 = 3; deliver 1 2 = 3; deliver 2 3 = 3
            deliver 3 0 = 3; start 0 = done; deliver 0 1 = 3; about 3 1 = 97; more 3 1 = 37
            deliver 0 1 = 3; more 3 1 = 1037; about 3 1 = 97; about 3 2 = -1; more 3 2 = 1067
            """);
    }

    private static void work() {
        Run.of("WORK, the first makes a parent, the next are answered", """
            begin 0 = done; spread 0 1 = done; spread 0 1 = done; spread 0 2 = done
            deliver 0 1 = 4; more 4 1 = 0; about 4 1 = 3; waiting 1 0 = 0
            deliver 0 1 = 4; first 1 0 = 410; waiting 1 0 = 1; more 4 1 = 0
            deliver 1 0 = 4; about 4 0 = 11
            deliver 0 2 = 4; spread 2 1 = done; deliver 2 1 = 4; more 4 1 = 0; first 1 2 = 410
            spread 1 0 = done; deliver 1 0 = 4; more 4 0 = -1; first 0 1 = 410
            """);
        Run.of("WORK, one that rests is busy again", """
            begin 0 = done; spread 0 1 = done; spread 0 1 = done; deliver 0 1 = 4; spread 1 2 = done
            rest 1 = done; about 4 1 = 6
            deliver 0 1 = 4; about 4 1 = 7; first 1 0 = 410; waiting 1 0 = 1
            deliver 1 2 = 4; rest 2 = done; deliver 2 1 = 4; about 4 1 = 3; waiting 1 0 = 1
            rest 1 = done; about 4 1 = 0; waiting 1 0 = 2
            """);
        Run.of("WORK, the root that rests is busy again", """
            begin 0 = done; spread 0 1 = done; rest 0 = done; deliver 0 1 = 4; spread 1 0 = done; about 4 0 = 6
            deliver 1 0 = 4; about 4 0 = 7; first 0 1 = 410; deliver 0 1 = 4; about 4 1 = 3
            rest 1 = done; deliver 1 0 = 4; about 4 0 = 3; count 2 = 0; rest 0 = done; count 2 = 1
            """);
        Run.of("WORK, one that had ended gets a new parent", """
            begin 0 = done; spread 0 1 = done; spread 0 2 = done; deliver 0 1 = 4; rest 1 = done; more 4 1 = -1
            deliver 0 2 = 4; spread 2 1 = done; deliver 2 1 = 4; more 4 1 = 2; about 4 1 = 3; waiting 1 2 = 0
            rest 1 = done; first 1 2 = 410; waiting 1 0 = 1
            """);
        Run.of("ANSWER, all must be answered before the end is found", """
            begin 0 = done; spread 0 1 = done; spread 0 2 = done; rest 0 = done
            deliver 0 1 = 4; rest 1 = done; deliver 1 0 = 4; about 4 0 = 6; count 2 = 0; count 3 = 0
            deliver 0 2 = 4; rest 2 = done; deliver 2 0 = 4; about 4 0 = 0; count 2 = 1; count 3 = -1
            """);
    }

    private static void wrongInputs() {
        Run.of("deliver, wrong inputs", """
            deliver 0 1 = throws.NoSuchElementException
            deliver 3 2 = throws.NoSuchElementException
            deliver 0 0 = throws.IllegalArgumentException
            deliver 3 3 = throws.IllegalArgumentException
            deliver -1 0 = throws.IllegalArgumentException
            deliver 0 -1 = throws.IllegalArgumentException
            deliver 4 0 = throws.IllegalArgumentException
            deliver 0 4 = throws.IllegalArgumentException
            deliver 2147483647 -2147483648 = throws.IllegalArgumentException
            want 0 0 = done; deliver 1 0 = throws.NoSuchElementException; deliver 0 4 = throws.IllegalArgumentException
            """);
    }
}
