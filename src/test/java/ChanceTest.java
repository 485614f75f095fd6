/** Promises 24 to 28: chances, days by draws, quays kept, counts. */
public final class ChanceTest {
    private static final Check check = new Check("ChanceTest");
    private static final int[] NO_PART = {-1, 2, Integer.MIN_VALUE, Integer.MAX_VALUE};

    public static void main(String[] args) {
        stays();
        staysOfFew();
        day();
        dayChangesNothing();
        keeping();
        counting();
        check.end();
    }

    private static void chance(AgesFerry x, int tenths, int above, int below) {
        check.row("stays by " + tenths, part -> x.stays(tenths, part), above, below, -1);
    }

    private static void stays() {
        AgesFerry one = Check.laid("f3,0,0;p0,30,0,0;p0,7,0,0;");
        chance(one, 0, 0, 1);
        chance(one, 1, 1, 10);
        chance(one, 2, 1, 5);
        chance(one, 5, 1, 2);
        chance(one, 10, 1, 1);
        int[] none = {-1, 11, Integer.MIN_VALUE, Integer.MAX_VALUE};
        for (int tenths : none) {
            check.due("stays by " + tenths, one.stays(tenths, 0), -1);
        }
        for (int part : NO_PART) {
            check.due("stays' " + part, one.stays(5, part), -1);
        }
        AgesFerry either = Check.laid("f3,5,0;p0,30,0,0;p0,35,0,0;");
        chance(either, 5, 3, 4);
        chance(either, 3, 51, 100);
        AgesFerry both = Check.laid("f3,5,0;p0,10,0,0;p0,20,0,0;p0,50,0,0;p0,30,9,0;");
        chance(both, 3, 9, 100);
        both.board(0);
        chance(both, 3, 9, 100);
        both.pass(9);
        chance(both, 5, 5, 8);
    }

    private static void staysOfFew() {
        AgesFerry nine = Check.laid("f1,0,0;" + "p0,10,0,0;".repeat(9));
        chance(nine, 1, 612579511, 1000000000);
        chance(nine, 9, 999999999, 1000000000);
        chance(nine, 10, 1, 1);
        AgesFerry party = Check.laid("f3,5,0;p0,30,0,1;p0,1,0,1;p0,30,9,2;p0,1,0,2;");
        chance(party, 5, 1, 4);
        party.die(1);
        chance(party, 5, 1, 2);
        party.board(0);
        party.sail();
        chance(party, 5, 0, 1);
        party.pass(9);
        chance(party, 5, 1, 4);
        AgesFerry nobody = Check.laid("f3,5,0;p0,30,1,0;");
        for (int tenths = 0; tenths <= 10; tenths++) {
            chance(nobody, tenths, 0, 1);
        }
    }

    /** What a day comes to, told from its words by calls of the face. */
    private static int[] dayByCalls(AgesFerry x, int z, int n) {
        int sailings = x.count(7);
        int coins = x.count(8);
        for (int k = 0; k < n; k++) {
            java.math.BigInteger root = java.math.BigInteger.valueOf(7919L * z + 6151L * k + 1);
            int draw = root.multiply(root).mod(java.math.BigInteger.valueOf(65521)).intValue();
            int p = draw % x.count(0);
            if (x.board(p) == AgesFerry.NO && draw / 16 % 2 == 0) {
                x.stepOff(p);
            }
            x.sail();
            x.pass(1);
        }
        return new int[] {x.count(7) - sailings, x.count(8) - coins};
    }

    private static void day() {
        String[] texts = {"f2,30,3;p2,60,0,0;p0,25,0,0;p2,40,3,0;p1,9,0,0;", "f1,9,1;p0,10,0,0;",
            "f5,20,2;p2,99,0,0;p2,88,1,0;p2,77,2,0;p3,9,3,1;p3,12,4,1;p0,33,5,0;p0,44,6,0;p1,5,7,0;p0,20,8,0;"};
        int seen = 0;
        for (String text : texts) {
            for (int z = 0; z <= 9999; z += z < 40 ? 1 : 83) {
                int n = 1 + z % 60;
                AgesFerry x = Check.laid(text);
                int sailings = x.day(z, n, 0);
                int coins = x.day(z, n, 1);
                int[] want = dayByCalls(x, z, n);
                check.due("day " + z + " of " + n, sailings, want[0]);
                check.due("coins of day " + z + " of " + n, coins, want[1]);
                seen += sailings;
            }
        }
        check.due("the days are not all empty", seen > 100 ? 1 : 0, 1);
        AgesFerry last = Check.laid(texts[2]);
        int atLast = last.day(9999, 60, 0);
        check.due("the last day of 60", atLast, dayByCalls(last, 9999, 60)[0]);
        int[][] wrong = {{-1, 1, 0}, {10000, 1, 0}, {0, 0, 0}, {0, 61, 0}, {0, -1, 0}, {0, 1, -1}, {0, 1, 2},
            {Integer.MIN_VALUE, 1, 0}, {Integer.MAX_VALUE, 1, 0}, {0, Integer.MAX_VALUE, 0}, {0, 1, Integer.MAX_VALUE}};
        for (int[] w : wrong) {
            check.due("day " + w[0] + ", " + w[1] + ", " + w[2], last.day(w[0], w[1], w[2]), -1);
        }
    }

    private static void dayChangesNothing() {
        // in minute 0 of day 0 the draw is 1: of two persons 1 moves, and may step off
        AgesFerry x = Check.laid("f1,10,3;p0,10,0,0;p0,10,0,0;");
        check.due("he boards and sails", x.day(0, 1, 0), 1);
        check.due("for nothing", x.day(0, 1, 1), 0);
        check.row("nothing changes", x::count, 2, 10, 0, 2, 0, 0, 0, 0, 0, 0, 0, 0, 28);
        x.board(0);
        check.due("with who is aboard", x.day(0, 1, 0), 1);
        check.due("10 over for 3 each", x.day(0, 1, 1), 30);
        x.board(1);
        check.due("he steps off, the other sails", x.day(0, 1, 0), 1);
        check.due("none over", x.day(0, 1, 1), 0);
        x.sail();
        check.due("nobody is left", x.day(0, 60, 0), 0);
        check.due("coins before do not count", x.day(0, 60, 1), 0);
        check.due("where all are", x.person(0, 4), 3);
        check.due("undo is as before", x.count(10), 3);
        AgesFerry late = Check.laid("f1,0,0;p0,10,5,0;");
        check.due("not come in 5 minutes", late.day(0, 5, 0), 0);
        check.due("come in the sixth", late.day(0, 6, 0), 1);
        late.pass(4);
        check.due("from now on", late.day(0, 1, 0), 0);
        check.due("from now on", late.day(0, 2, 0), 1);
    }

    private static void keeping() {
        AgesFerry x = Check.laid("f1,5,2;p0,10,0,0;p2,13,0,0;p0,1,2,0;");
        check.due("nothing kept", x.back(), -2);
        x.board(1);
        check.due("keep", x.keep(), 1);
        x.sail();
        x.pass(2);
        check.due("keep", x.keep(), 2);
        check.due("a third", x.keep(), -3);
        x.die(2);
        x.board(0);
        x.tell(1, 4);
        x.write('f');
        check.row("count", x::count, 3, 10, 2, 1, 1, 0, 1, 1, 6, 1, 5, 2, 37);
        check.due("back", x.back(), 1);
        check.row("count", x::count, 3, 10, 2, 3, 0, 0, 0, 1, 6, 1, 0, 1, 37);
        check.due("trips as kept", x.person(1, 5), 1);
        check.due("nothing is undone", x.undo(), -2);
        x.die(0);
        check.due("keep again", x.keep(), 2);
        check.due("back", x.back(), 1);
        check.places("back", x, "411");
        check.due("back", x.back(), 0);
        check.row("count", x::count, 3, 10, 0, 1, 1, 0, 0, 0, 0, 1, 0, 0, 37);
        check.places("back", x, "120");
        check.due("trips as kept", x.person(1, 5), 0);
        check.due("nothing more", x.back(), -2);
        check.due("sail from there", x.sail(), 6);
        check.due("undo of that", x.undo(), 0);
        x.keep();
        check.due("keep twice", x.keep(), 2);
        x.pass(7);
        check.due("undo leaves the kept", x.undo(), 0);
        check.due("kept", x.count(11), 2);
    }

    private static void counting() {
        AgesFerry x = Check.laid("f4,50,1;p0,40,0,0;p0,41,0,0;p0,1,0,0;p0,2,9,0;p0,3,9,0;p0,3,0,0;p2,40,0,0;");
        x.board(0);
        x.board(1);
        x.sail();
        x.board(6);
        x.die(2);
        x.die(3);
        x.keep();
        x.tell(1, 1);
        x.tell(1, 2);
        x.pass(3);
        check.row("count", x::count, 7, 40, 3, 1, 1, 2, 2, 1, 41, 2, 7, 1, 74, -1);
        int[] none = {-1, 13, Integer.MIN_VALUE, Integer.MAX_VALUE};
        for (int what : none) {
            check.due("count " + what, x.count(what), -1);
        }
        x.pass(6);
        check.due("one more comes", x.count(3), 2);
        check.due("it is", x.count(2), 9);
    }
}
