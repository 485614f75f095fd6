/** Promises 7 to 13: the sum, minutes, who boards, steps off, dies, sailings, undone. */
public final class MinutesTest {
    private static final Check check = new Check("MinutesTest");

    public static void main(String[] args) {
        sums();
        kinds();
        hired();
        parties();
        passing();
        boarding();
        steppingOff();
        dying();
        sailing();
        undoing();
        check.end();
    }

    private static void sums() {
        AgesFerry x = Check.laid("f3,5,2;p0,29,0,0;p0,1,0,0;p0,4,0,0;p0,1,0,0;p0,1,0,0;");
        check.row("nobody aboard", x::sum, 0, 30, 0, 0, -4, -1);
        x.board(0);
        check.row("29 of 30", x::sum, 29, 1, 0, 0, -4, -1);
        x.board(1);
        check.row("30 of 30", x::sum, 30, 0, 0, 1, 0, -1);
        x.board(2);
        check.row("34 of 30", x::sum, 34, 0, 4, 1, 8, -1);
        x.board(3);
        check.row("35 of 30", x::sum, 35, 0, 5, 1, 10, -1);
        x.board(4);
        check.row("36 of 30", x::sum, 36, 0, 6, 0, -4, -1);
        check.due("sum(-1)", x.sum(-1), -1);
        check.due("sum(lowest)", x.sum(Integer.MIN_VALUE), -1);
        check.due("sum(highest)", x.sum(Integer.MAX_VALUE), -1);
        AgesFerry free = Check.laid("f1,99,0;p0,99,0,0;p0,10,0,0;p0,1,0,0;");
        free.board(0);
        check.row("89 over for nothing", free::sum, 99, 0, 89, 1, 0);
        free.board(1);
        check.row("99 over for nothing", free::sum, 109, 0, 99, 1, 0);
        free.board(2);
        check.row("100 over", free::sum, 110, 0, 100, 0, -4);
        AgesFerry dear = Check.laid("f1,99,9;p0,99,0,0;p0,10,0,0;");
        dear.board(0);
        dear.board(1);
        check.due("99 over for 9 each", dear.sum(4), 891);
        AgesFerry old = Check.laid("f99,99,9;" + "p0,99,0,0;".repeat(9));
        for (int p = 0; p < 9; p++) {
            check.due("board " + p, old.board(p), 99 * (p + 1));
        }
        check.row("891 of 990", old::sum, 891, 99, 0, 0, -4);
    }

    private static void kinds() {
        AgesFerry x = Check.laid("f9,9,1;p0,37,0,0;p1,80,0,0;p1,0,0,0;p2,25,0,0;p3,40,0,0;p3,50,0,0;p3,9,0,0;");
        check.due("plain", x.board(0), 37);
        check.due("babe", x.board(1), 38);
        check.due("babe of no age", x.board(2), 39);
        check.due("hired", x.board(3), 64);
        check.due("one soldier", x.board(4), 64);
        check.due("two soldiers", x.board(5), 154);
        check.due("three soldiers", x.board(6), 163);
        check.due("two again", x.stepOff(4), 123);
        check.due("one again", x.stepOff(6), 64);
        check.due("none", x.stepOff(5), 64);
    }

    private static void hired() {
        AgesFerry x = Check.laid("f1,30,1;p2,25,0,0;p0,10,0,0;p0,10,0,0;p0,10,0,0;");
        check.due("first", x.board(0), 25);
        check.due("15 over", x.sail(), 15);
        check.due("second", x.board(0), 15);
        check.due("5 over", x.sail(), 5);
        check.due("third", x.board(0), 5);
        x.board(1);
        check.due("5 over", x.sail(), 5);
        check.due("fourth, none rather than less", x.board(0), 0);
        x.board(2);
        check.due("none over", x.sail(), 0);
        check.due("fifth", x.board(0), 0);
        check.due("trips", x.person(0, 5), 4);
        check.places("four sailings", x, "2331");
    }

    private static void parties() {
        AgesFerry x = Check.laid("f2,9,1;p0,20,0,1;p0,0,0,1;p0,1,5,1;p0,20,0,2;p0,20,0,0;p0,1,0,0;");
        x.board(0);
        check.due("parted from two", x.sum(3), 0);
        x.board(1);
        check.due("parted from one to come", x.sum(3), 0);
        check.due("sail", x.sail(), -2);
        x.pass(5);
        check.due("parted from one on the quay", x.sum(3), 0);
        x.board(2);
        check.row("whole", x::sum, 21, 0, 1, 1, 1);
        x.stepOff(2);
        x.die(2);
        check.row("a dead one is not waited for", x::sum, 20, 0, 0, 1, 0);
        x.undo();
        x.stepOff(0);
        x.stepOff(1);
        x.board(4);
        check.due("of no party", x.sum(3), 1);
        x.board(5);
        check.due("of no party", x.sail(), 1);
        x.board(3);
        check.due("alone in his party", x.sail(), 0);
        AgesFerry y = Check.laid("f1,0,1;p2,10,0,3;p0,0,0,3;p0,10,0,5;p0,0,9,5;p0,10,0,4;p0,0,9,4;");
        y.board(0);
        check.due("hired of a party", y.sum(3), 0);
        y.board(1);
        y.sail();
        check.places("party across but for the hired", y, "131010");
        y.board(0);
        y.board(2);
        check.due("party 5", y.sum(3), 0);
        y.die(3);
        check.due("who is across is not waited for", y.sum(3), 1);
        y.stepOff(2);
        y.board(4);
        check.due("party 4", y.sum(3), 0);
        y.die(5);
        check.due("party 4 of one", y.sum(3), 1);
        AgesFerry z = Check.laid("f1,0,1;p2,10,0,0;p2,10,0,3;p0,0,0,3;p0,10,0,0;");
        z.board(1);
        z.board(2);
        z.sail();
        z.board(2);
        z.board(3);
        z.board(2);
        check.due("he is across, the hired one on the quay waits", z.sum(3), 1);
    }

    private static void passing() {
        AgesFerry x = Check.laid("p0,1,60,0;p0,1,61,0;p0,1,99,0;");
        int[] none = {0, -1, 61, Integer.MIN_VALUE, Integer.MAX_VALUE};
        for (int n : none) {
            check.due("pass " + n, x.pass(n), -1);
        }
        check.due("no minute went by", x.count(2), 0);
        check.due("nothing to undo", x.count(10), 0);
        check.due("pass(60)", x.pass(60), 60);
        check.places("60 minutes", x, "100");
        check.due("pass(1)", x.pass(1), 61);
        check.places("61 minutes", x, "110");
        check.due("pass(38)", x.pass(38), 99);
        check.places("99 minutes", x, "111");
        check.due("pass(60)", x.pass(60), 159);
    }

    private static void boarding() {
        AgesFerry x = Check.laid("f1,0,0;p0,10,0,0;p0,7,0,0;p0,5,2,0;");
        int[] none = {-1, 3, 9, Integer.MIN_VALUE, Integer.MAX_VALUE};
        for (int p : none) {
            check.due("board " + p, x.board(p), -1);
        }
        check.due("board who has not come", x.board(2), -2);
        check.due("board", x.board(0), 10);
        check.due("board twice", x.board(0), -2);
        x.sail();
        check.due("board who is across", x.board(0), -2);
        x.die(1);
        check.due("board who is dead", x.board(1), -2);
        check.due("undo counts moves alone", x.count(10), 3);
        x.pass(2);
        check.due("board who has come", x.board(2), 5);
    }

    private static void steppingOff() {
        AgesFerry x = Check.laid("f1,0,0;p0,10,0,0;p0,7,0,0;p0,5,2,0;");
        int[] none = {-1, 3, 9, Integer.MIN_VALUE, Integer.MAX_VALUE};
        for (int p : none) {
            check.due("stepOff " + p, x.stepOff(p), -1);
        }
        check.due("who is on the quay", x.stepOff(0), -2);
        check.due("who has not come", x.stepOff(2), -2);
        x.board(0);
        x.board(1);
        check.due("stepOff", x.stepOff(0), 7);
        check.places("stepOff", x, "120");
        check.due("stepOff twice", x.stepOff(0), -2);
        check.due("the last one", x.stepOff(1), 0);
        x.board(0);
        x.sail();
        check.due("who is across", x.stepOff(0), -2);
        x.die(1);
        check.due("who is dead", x.stepOff(1), -2);
        check.due("undo counts moves alone", x.count(10), 7);
    }

    private static void dying() {
        AgesFerry x = Check.laid("f1,0,0;p0,10,0,0;p0,7,0,0;p0,5,2,0;p0,4,0,0;");
        int[] none = {-1, 4, 9, Integer.MIN_VALUE, Integer.MAX_VALUE};
        for (int p : none) {
            check.due("die " + p, x.die(p), -1);
        }
        x.board(0);
        x.sail();
        check.due("who is across", x.die(0), -2);
        x.board(1);
        check.due("aboard", x.die(1), 2);
        check.due("not aboard any more", x.sum(0), 0);
        check.due("not yet come", x.die(2), 0);
        check.due("on the quay", x.die(3), 1);
        check.due("dead", x.die(3), -2);
        check.places("deaths", x, "3444");
        check.row("count", x::count, 4, 10, 0, 0, 0, 1, 3, 1, 0, 0, 6);
    }

    private static void sailing() {
        AgesFerry x = Check.laid("f2,5,3;p0,20,0,0;p2,24,0,0;p3,12,0,0;p3,13,0,0;p0,26,0,0;p0,19,0,0;");
        check.due("nobody aboard", x.sail(), -2);
        x.board(5);
        check.due("too few years", x.sail(), -2);
        x.stepOff(5);
        x.board(4);
        check.due("too many years", x.sail(), -2);
        x.stepOff(4);
        check.due("undo counts no refusal", x.count(10), 4);
        x.board(1);
        check.due("4 over", x.sail(), 12);
        check.row("count", x::count, 6, 20, 0, 6, 0, 0, 0, 1, 12);
        x.board(2);
        x.board(3);
        check.due("5 over", x.sail(), 15);
        check.row("count", x::count, 6, 20, 0, 4, 0, 2, 0, 2, 27);
        x.board(0);
        check.due("none over", x.sail(), 0);
        check.row("count", x::count, 6, 20, 0, 3, 0, 3, 0, 3, 27);
        check.places("sailings", x, "313311");
        check.row("trips", p -> x.person(p, 5), 1, 1, 1, 1, 0, 0);
    }

    private static void undoing() {
        AgesFerry x = Check.laid("f2,5,3;p0,20,0,0;p2,24,0,0;p0,1,3,0;");
        check.due("nothing yet", x.undo(), -2);
        x.board(0);
        x.stepOff(0);
        x.board(1);
        x.sail();
        x.die(0);
        x.pass(60);
        check.row("count", x::count, 3, 20, 60, 2, 0, 0, 1, 1, 12, 0, 6);
        x.tell(1, 7);
        x.write('f');
        x.keep();
        check.due("minutes undone", x.undo(), 5);
        check.row("count", x::count, 3, 20, 0, 1, 0, 0, 1, 1, 12, 1, 5, 1, 37);
        check.due("death undone", x.undo(), 4);
        check.places("death undone", x, "110");
        check.due("sailing undone", x.undo(), 3);
        check.row("count", x::count, 3, 20, 0, 1, 1, 0, 0, 0, 0, 1, 3, 1, 37);
        check.due("trips undone", x.person(1, 5), 0);
        check.due("he counts as before", x.sum(0), 24);
        check.due("boarding undone", x.undo(), 2);
        check.due("stepping off undone", x.undo(), 1);
        check.places("stepping off undone", x, "210");
        check.due("first boarding undone", x.undo(), 0);
        check.places("all undone", x, "110");
        check.due("nothing more", x.undo(), -2);
        for (int i = 1; i <= 12; i++) {
            x.pass(i);
            check.due("undone can be", x.count(10), Math.min(i, 8));
        }
        check.due("minute", x.count(2), 78);
        for (int i = 7; i >= 0; i--) {
            check.due("undo " + i, x.undo(), i);
            check.due("minute behind undo " + i, x.count(2), (i + 4) * (i + 5) / 2);
        }
        check.due("minute of the fifth", x.count(2), 10);
        check.due("nothing more", x.undo(), -2);
        x.pass(1);
        check.due("undo behind undo", x.undo(), 0);
        check.due("minute", x.count(2), 10);
        AgesFerry y = Check.laid("f1,30,1;" + "p2,39,0,0;".repeat(9));
        for (int p = 0; p < 9; p++) {
            y.board(p);
            y.sail();
            check.due("sailings made by " + p, y.person(p, 5), 1);
            y.undo();
            check.due("undone of " + p, y.person(p, 5), 0);
            y.stepOff(p);
        }
    }
}
