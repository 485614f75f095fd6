/** Promises 14 to 18: the best set, the wait, the most sailings, sets for one, odd ones. */
public final class SetsTest {
    private static final Check check = new Check("SetsTest");
    private static final int[] NO_WHAT = {-1, 3, Integer.MIN_VALUE, Integer.MAX_VALUE};

    public static void main(String[] args) {
        best();
        waits();
        sailings();
        sailingsChoose();
        setsFor();
        oddOnes();
        check.end();
    }

    private static void best() {
        AgesFerry few = Check.laid("f3,9,1;p0,15,0,0;p0,15,0,0;p0,31,0,0;p0,32,0,0;");
        check.row("fewest coins before fewest persons", few::best, 3, 0, -1);
        few.die(0);
        check.row("none of 30", few::best, 4, 1, -1);
        few.board(2);
        check.row("aboard too", few::best, 4, 1);
        few.sail();
        check.row("not across", few::best, 8, 2);
        few.die(3);
        check.row("none", few::best, -4, -4, -1);
        check.due("BAD goes before NONE", few.best(2), -1);
        for (int what : NO_WHAT) {
            check.due("best " + what, few.best(what), -1);
        }
        check.due("what 0 to 1 alone", few.best(2), -1);
        AgesFerry persons = Check.laid("f3,0,1;p0,10,0,0;p0,10,0,0;p0,10,0,0;p0,20,0,0;p0,30,9,0;p0,10,0,0;");
        check.row("fewest persons, the lowest", persons::best, 9, 0);
        persons.pass(9);
        check.row("fewest persons", persons::best, 16, 0);
        AgesFerry nothing = Check.laid("f3,9,0;p0,39,0,0;p0,30,0,0;p0,38,0,0;");
        check.row("the lowest bits of three", nothing::best, 1, 0);
        AgesFerry party = Check.laid("f3,9,1;p0,30,0,1;p0,8,0,1;p0,35,0,0;p0,0,5,2;p0,30,0,2;");
        check.row("parties go whole", party::best, 4, 5);
        party.die(1);
        check.row("one of the party is dead", party::best, 1, 0);
        AgesFerry soldiers = Check.laid("f3,9,1;p3,30,0,0;p3,7,0,0;p0,31,3,0;");
        check.row("soldiers by two", soldiers::best, 3, 7);
        soldiers.pass(3);
        check.row("one soldier adds nothing", soldiers::best, 4, 1);
        AgesFerry hired = Check.laid("f3,9,1;p2,39,0,0;");
        check.row("hired", hired::best, 1, 9);
        hired.board(0);
        hired.sail();
        check.row("hired, 29 now", hired::best, -4, -4);
    }

    private static void waits() {
        AgesFerry x = Check.laid("f3,0,0;p0,10,0,0;p0,20,99,0;p0,30,40,0;p0,20,70,0;");
        check.due("the 40th minute", x.waits(), 40);
        x.pass(39);
        check.due("one more", x.waits(), 1);
        x.pass(1);
        check.due("there", x.waits(), 0);
        x.die(2);
        check.due("another one", x.waits(), 30);
        x.die(3);
        check.due("the last one", x.waits(), 59);
        x.pass(60);
        check.due("come", x.waits(), 0);
        x.board(0);
        check.due("aboard too", x.waits(), 0);
        x.die(0);
        check.due("none", x.waits(), -4);
        check.due("none ever", Check.laid("f3,0,0;p0,29,0,0;").waits(), -4);
        check.due("99 minutes", Check.laid("f3,0,0;p0,30,99,0;").waits(), 99);
        AgesFerry party = Check.laid("f3,5,0;p0,30,0,1;p0,1,50,1;p0,30,60,0;");
        check.due("the party's last", party.waits(), 50);
        party.die(1);
        check.due("who dies is not waited for", party.waits(), 0);
        AgesFerry soldier = Check.laid("f3,5,0;p3,30,0,0;p3,0,33,0;");
        check.due("the second soldier", soldier.waits(), 33);
        check.due("nothing changes by it", soldier.count(2), 0);
        AgesFerry across = Check.laid("f3,0,0;p0,30,0,0;p0,10,0,0;p0,20,5,0;");
        across.board(0);
        across.sail();
        check.due("not who is across", across.waits(), 5);
    }

    private static void sailings() {
        AgesFerry x = Check.laid("f3,5,1;p0,30,0,0;p0,33,9,0;p0,34,0,0;p0,5,0,0;p0,1,0,0;");
        check.row("three alone", x::sailings, 3, 7, 24, -1);
        x.board(0);
        check.row("aboard too", x::sailings, 3, 7, 24);
        x.sail();
        check.row("not across", x::sailings, 2, 7, 24);
        x.die(2);
        check.row("not dead", x::sailings, 1, 3, 24);
        x.die(1);
        check.row("none: all are left", x::sailings, 0, 0, 24);
        x.die(3);
        x.die(4);
        check.row("nobody", x::sailings, 0, 0, 0);
        for (int what : NO_WHAT) {
            check.due("sailings " + what, x.sailings(what), -1);
        }
        check.row("one alone", Check.laid("f1,9,2;p0,13,0,0;")::sailings, 1, 6, 0);
        AgesFerry nine = Check.laid("f1,0,9;" + "p0,10,50,0;".repeat(9));
        check.row("nine to come", nine::sailings, 9, 0, 0);
        AgesFerry far = Check.laid("f1,99,9;" + "p0,99,50,0;".repeat(9));
        check.row("nine dear ones", far::sailings, 9, 7209, 0);
    }

    private static void sailingsChoose() {
        AgesFerry lefts = Check.laid("f3,5,0;p0,30,0,0;p0,4,0,0;p0,30,0,0;p0,3,0,0;p0,2,0,0;p0,9,0,0;");
        check.row("of several the fewest bits left", lefts::sailings, 2, 0, 32);
        AgesFerry coins = Check.laid("f3,9,1;p0,28,0,0;p0,2,0,0;p0,3,0,0;p0,28,0,0;p0,4,0,0;");
        check.row("fewest coins together", coins::sailings, 2, 1, 16);
        AgesFerry most = Check.laid("f3,9,1;p0,30,0,0;p0,16,0,0;p0,14,0,0;p0,39,0,0;p0,39,0,0;p0,24,0,0;");
        check.row("more sailings before fewer coins", most::sailings, 4, 18, 32);
        AgesFerry party = Check.laid("f3,9,2;p0,30,0,1;p0,30,0,2;p0,1,0,2;p0,5,0,1;p0,40,0,1;");
        check.row("parties go whole", party::sailings, 1, 2, 25);
        party.die(4);
        check.row("as they stand now", party::sailings, 2, 12, 0);
        AgesFerry soldiers = Check.laid("f3,9,1;p3,15,0,0;p3,15,0,0;p3,16,0,0;p3,16,0,0;p3,9,0,0;");
        check.row("soldiers by two", soldiers::sailings, 2, 2, 16);
        AgesFerry apart = Check.laid("f3,20,1;p0,30,0,0;p0,30,0,0;p3,10,0,0;p3,10,0,0;");
        check.row("a soldier with each, where they count nothing", apart::sailings, 2, 0, 0);
        AgesFerry together = Check.laid("f3,9,1;p3,15,0,0;p0,30,0,0;p0,30,0,0;p3,20,0,0;");
        check.row("more sailings of the same persons", together::sailings, 3, 5, 0);
        AgesFerry hired = Check.laid("f3,9,1;p2,30,0,0;p0,30,0,0;p0,10,0,0;");
        hired.board(0);
        hired.sail();
        check.row("as all count now", hired::sailings, 2, 0, 0);
        check.due("nothing changes by it", hired.count(7), 1);
    }

    private static void setsFor() {
        AgesFerry x = Check.laid("f3,9,1;p0,30,0,0;p0,5,0,0;p0,4,0,0;p0,99,0,0;p0,1,7,0;p0,31,0,0;");
        check.row("sets for", x::setsFor, 4, 3, 3, 0, -2, 3, -1);
        x.pass(7);
        check.row("one more on the quay", x::setsFor, 7, 5, 5, 0, 6, 6, -1);
        x.board(0);
        check.row("one aboard", x::setsFor, 7, 5, 5, 0, 6, 6, -1);
        x.sail();
        check.row("one across", x::setsFor, -2, 2, 2, 0, 3, 6, -1);
        x.die(1);
        check.row("one dead", x::setsFor, -2, -2, 2, 0, 2, 4, -1);
        int[] none = {-1, 6, 9, Integer.MIN_VALUE, Integer.MAX_VALUE};
        for (int p : none) {
            check.due("setsFor " + p, x.setsFor(p), -1);
        }
    }

    private static void oddOnes() {
        AgesFerry x = Check.laid("f3,9,1;p0,30,0,0;p0,5,0,0;p0,10,0,0;p0,99,0,0;p0,1,7,0;p3,31,0,0;");
        check.due("odd: 10 and 99", x.oddOnes(), 4 + 8);
        x.board(2);
        check.due("aboard too", x.oddOnes(), 4 + 8);
        x.die(3);
        check.due("the dead are not odd", x.oddOnes(), 4);
        x.board(0);
        x.stepOff(2);
        x.sail();
        check.due("none is left to sail with", x.oddOnes(), 2 + 4 + 32);
        x.pass(7);
        check.due("who comes is odd too", x.oddOnes(), 2 + 4 + 16 + 32);
        AgesFerry y = Check.laid("f3,9,1;p0,30,0,0;p0,1,0,1;p0,1,9,1;p0,50,9,0;");
        check.due("his party has not come", y.oddOnes(), 2);
        y.pass(9);
        check.due("the party has come", y.oddOnes(), 8);
        check.due("nobody there", Check.laid("p0,1,1,0;").oddOnes(), 0);
        AgesFerry all = Check.laid("f99,99,9;" + "p0,99,0,0;".repeat(9));
        check.due("all", all.oddOnes(), 511);
        check.row("no set for any", all::setsFor, 0, 0, 0, 0, 0, 0, 0, 0, 0, -1);
    }
}
