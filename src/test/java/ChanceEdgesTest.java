import java.math.BigInteger;
import java.util.function.IntConsumer;

/** The bounds in Terms 4 (stays, a day, kept) and Promises 24 to 28; above each method the words of ../shared/DOC.md. */
public final class ChanceEdgesTest {
    private static final Check check = new Check("ChanceEdgesTest");
    private static final int LOW = Integer.MIN_VALUE, HIGH = Integer.MAX_VALUE;
    /** Each sails alone, and the coins tell who: 10, 11, .. 18 years of 10. */
    private static final String NINE = "f1,9,1;p0,10,T,0;p0,11,T,0;p0,12,T,0;p0,13,T,0;p0,14,T,0;p0,15,T,0;"
            + "p0,16,T,0;p0,17,T,0;p0,18,T,0;";

    public static void main(String[] args) {
        staysOfOne();
        staysOfNobody();
        staysOfNine();
        staysOfThose();
        staysNumbers();
        dayNumbers();
        dayFirstDraw();
        dayOtherDraws();
        dayStepsOff();
        daySailsThenMinute();
        dayFromNowOn();
        dayOfNobody();
        keptTwo();
        keptBack();
        keptStays();
        countNumbers();
        countLeast();
        countMost();
        check.end();
    }

    private static void chance(String call, AgesFerry x, int tenths, long above, long below) {
        check.due(call + " by " + tenths + ", above", x.stays(tenths, 0), above);
        check.due(call + " by " + tenths + ", below", x.stays(tenths, 1), below);
    }

    /** "stays by x (0 to 10) of ten"; "in lowest terms" */
    private static void staysOfOne() {
        AgesFerry one = Check.laid("f1,0,0;p0,10,0,0;");
        int[] above = {0, 1, 1, 3, 2, 1, 3, 7, 4, 9, 1};
        int[] below = {1, 10, 5, 10, 5, 2, 5, 10, 5, 10, 1};
        for (int tenths = 0; tenths <= 10; tenths++) {
            chance("one", one, tenths, above[tenths], below[tenths]);
        }
        AgesFerry none = Check.laid("f1,0,0;p0,9,0,0;p0,11,0,0;");
        for (int tenths = 0; tenths <= 10; tenths++) {
            chance("no set", none, tenths, 0, 1);
        }
    }

    /** Nobody on the QUAY and aboard: no chance, 0 of 1, by any x. */
    private static void staysOfNobody() {
        AgesFerry late = Check.laid("f1,0,0;p0,10,1,0;");
        AgesFerry dead = Check.laid("f1,0,0;p0,10,0,0;");
        dead.die(0);
        AgesFerry across = Check.laid("f1,0,0;p0,10,0,0;");
        across.board(0);
        across.sail();
        for (int tenths = 0; tenths <= 10; tenths++) {
            chance("not come", late, tenths, 0, 1);
            chance("dead", dead, tenths, 0, 1);
            chance("across", across, tenths, 0, 1);
        }
        late.pass(1);
        chance("come", late, 3, 3, 10);
    }

    /** "the chance that there is a SET of those who do that SAILS": all nine must stay, any of nine may. */
    private static void staysOfNine() {
        AgesFerry all = Check.laid("f9,0,0;" + "p0,10,0,0;".repeat(9));
        AgesFerry any = Check.laid("f1,0,0;" + "p0,10,0,0;".repeat(9));
        for (int tenths = 0; tenths <= 10; tenths++) {
            BigInteger below = BigInteger.TEN.pow(9);
            BigInteger stay = BigInteger.valueOf(tenths).pow(9);
            BigInteger go = below.subtract(BigInteger.valueOf(10 - tenths).pow(9));
            chance("all nine", all, tenths, lowest(stay, below), lowest(below, stay));
            chance("any of nine", any, tenths, lowest(go, below), lowest(below, go));
        }
        chance("all nine", all, 9, 387420489, 1000000000);
        chance("all nine", all, 1, 1, 1000000000);
        chance("any of nine", any, 9, 999999999, 1000000000);
        chance("all nine", all, 5, 1, 512);
        chance("any of nine", any, 5, 511, 512);
        AgesFerry two = Check.laid("f2,0,0;" + "p0,10,0,0;".repeat(9));
        chance("two or more of nine", two, 5, 251, 256);
        AgesFerry eight = Check.laid("f8,0,0;" + "p0,10,0,0;".repeat(9));
        chance("eight or nine of nine", eight, 5, 5, 256);
        chance("eight or nine of nine", eight, 10, 1, 1);
    }

    private static long lowest(BigInteger one, BigInteger other) {
        return one.divide(one.gcd(other)).longValueExact();
    }

    /** "each one on the QUAY and aboard .. for himself" */
    private static void staysOfThose() {
        AgesFerry x = Check.laid("f1,9,0;p0,10,9,0;p0,11,0,0;p0,12,0,0;p0,13,0,0;p0,14,0,0;");
        x.board(3);
        x.sail();
        x.die(4);
        x.board(2);
        check.places("each place", x, "01234");
        chance("one on the quay, one aboard", x, 5, 3, 4);
        Check.until(x, 8);
        chance("the minute before", x, 5, 3, 4);
        x.pass(1);
        chance("one more", x, 5, 7, 8);
        AgesFerry party = Check.laid("f1,9,0;p0,10,0,5;p0,0,0,5;p0,0,9,5;");
        chance("one of the party has not come", party, 10, 0, 1);
        Check.until(party, 9);
        chance("the party has come", party, 10, 1, 1);
        chance("all of it must stay", party, 5, 1, 8);
    }

    /** "x (0 to 10)"; "above (part = 0), below (1). BAD." */
    private static void staysNumbers() {
        AgesFerry x = Check.laid("f1,0,0;p0,10,0,0;");
        for (int tenths = -15; tenths <= 25; tenths++) {
            boolean right = tenths >= 0 && tenths <= 10;
            check.due("x of " + tenths, x.stays(tenths, 1) > 0 ? 1 : 0, right ? 1 : 0);
            check.due("x of " + tenths, x.stays(tenths, 0) == -1 ? 1 : 0, right ? 0 : 1);
        }
        for (int part = -9; part <= 12; part++) {
            check.due("part " + part, x.stays(5, part), part == 0 ? 1 : part == 1 ? 2 : -1);
        }
        int[] far = {LOW, HIGH};
        for (int n : far) {
            check.due("x of " + n, x.stays(n, 0), -1);
            check.due("part " + n, x.stays(5, n), -1);
        }
    }

    /** "z (0 to 9999) of n (1 to 60) minutes"; "sailings (what = 0), coins (1). BAD." */
    private static void dayNumbers() {
        AgesFerry x = Check.laid("f1,9,3;p0,11,0,0;");
        int[] zs = {-1, 0, 1, 9998, 9999, 10000};
        for (int z : zs) {
            boolean right = z >= 0 && z <= 9999;
            check.due("day " + z, x.day(z, 1, 0), right ? 1 : -1);
            check.due("coins of day " + z, x.day(z, 1, 1), right ? 3 : -1);
        }
        for (int n = -3; n <= 64; n++) {
            boolean right = n >= 1 && n <= 60;
            check.due("day of " + n, x.day(0, n, 0), right ? 1 : -1);
        }
        for (int what = -9; what <= 12; what++) {
            check.due("day's " + what, x.day(0, 1, what), what == 0 ? 1 : what == 1 ? 3 : -1);
        }
        int[] far = {LOW, HIGH};
        for (int n : far) {
            check.due("day " + n, x.day(n, 1, 0), -1);
            check.due("day of " + n, x.day(0, n, 0), -1);
            check.due("day's " + n, x.day(0, 1, n), -1);
        }
    }

    private static int draw(int z, int k) {
        BigInteger x = BigInteger.valueOf(7919).multiply(BigInteger.valueOf(z));
        x = x.add(BigInteger.valueOf(6151).multiply(BigInteger.valueOf(k))).add(BigInteger.ONE);
        return x.multiply(x).mod(BigInteger.valueOf(65521)).intValueExact();
    }

    /** "in the k-th (0 first) PERSON DRAW modulo as many as there are BOARDS, if he can": k of 0, z of all. */
    private static void dayFirstDraw() {
        AgesFerry x = null;
        for (int z = 0; z <= 9999; z++) {
            x = z % 200 == 0 ? Check.laid(NINE.replace("T", "0")) : x;
            check.due("who sails first on day " + z, x.day(z, 1, 1), draw(z, 0) % 9);
        }
        check.due("on day 0 the draw is 1", x.day(0, 1, 1), 1);
        check.due("on day 1 it is 22803", x.day(1, 1, 1), 6);
        check.due("on day 9999 it is 51303", x.day(9999, 1, 1), 3);
        for (int many = 1; many <= 9; many++) {
            AgesFerry few = Check.laid(NINE.replace("T", "0").substring(0, 7 + 10 * many));
            check.due("persons", few.count(0), many);
            check.due("who of " + many, few.day(9999, 1, 1), 51303 % many);
        }
    }

    /** "the k-th (0 first)": all come in that minute, so nobody moves before it; 59 is the last. */
    private static void dayOtherDraws() {
        for (int k = 0; k <= 59; k++) {
            AgesFerry x = Check.laid(NINE.replace("T", "" + k));
            int[] days = {0, 1, 77, 9998, 9999};
            for (int z : days) {
                check.due("before minute " + k, k == 0 ? 0 : x.day(z, k, 0), 0);
                check.due("in minute " + k, x.day(z, k + 1, 0), 1);
                check.due("who in minute " + k + " of day " + z, x.day(z, k + 1, 1), draw(z, k) % 9);
            }
        }
        AgesFerry last = Check.laid(NINE.replace("T", "59"));
        check.due("day 0, minute 59: the draw is 37042", last.day(0, 60, 1), 7);
        check.due("day 9999, minute 59: the draw is 10514", last.day(9999, 60, 1), 2);
        AgesFerry never = Check.laid(NINE.replace("T", "60"));
        check.due("who comes at 60 is too late", never.day(9999, 60, 0), 0);
        AgesFerry all = Check.laid(NINE.replace("T", "0"));
        check.due("day 0: 1, 6 and 3", all.day(0, 3, 1), 10);
        check.due("day 9999: 3, 5 and 0", all.day(9999, 3, 1), 8);
        check.due("three sailings", all.day(9999, 3, 0), 3);
        check.due("nine sailings, all of them", all.day(9999, 60, 0), 9);
        check.due("their coins", all.day(9999, 60, 1), 36);
    }

    /** "else STEPS OFF, if he can, and (DRAW by 16, cut) modulo 2 is 0" */
    private static void dayStepsOff() {
        AgesFerry x = null;
        AgesFerry can = null;
        for (int z = 0; z <= 9999; z++) {
            if (z % 200 == 0) {
                x = Check.laid("f1,0,0;p0,5,0,0;p0,5,1,0;");
                x.board(0);
                can = Check.laid("f1,0,0;p0,10,0,0;p0,5,99,0;");
                can.board(0);
            }
            boolean off = draw(z, 0) % 2 == 0 && draw(z, 0) / 16 % 2 == 0;
            boolean other = draw(z, 1) % 2 == 1;
            check.due("he is there when the other one boards, day " + z, x.day(z, 2, 0), !off && other ? 1 : 0);
            check.due("he sails if he does not step off, day " + z, can.day(z, 1, 0), off ? 0 : 1);
        }
    }

    /** "then the FERRY SAILS, if it can; then the minute goes by" */
    private static void daySailsThenMinute() {
        AgesFerry x = Check.laid("f1,0,0;p0,10,1,0;");
        check.due("not come in the first minute", x.day(5, 1, 0), 0);
        check.due("in the second he has", x.day(5, 2, 0), 1);
        AgesFerry over = Check.laid("f1,0,0;p0,11,0,0;");
        check.due("one over what it bears", over.day(5, 60, 0), 0);
        AgesFerry under = Check.laid("f1,0,0;p0,9,0,0;");
        check.due("one under what it wants", under.day(5, 60, 0), 0);
        AgesFerry hired = Check.laid("f1,89,1;p2,99,0,0;");
        check.due("nine times he sails alone", hired.day(9999, 9, 0), 9);
        check.due("then he counts too little", hired.day(9999, 60, 0), 9);
        check.due("for what is over", hired.day(9999, 60, 1), 89 + 79 + 69 + 59 + 49 + 39 + 29 + 19 + 9);
        AgesFerry party = Check.laid("f1,9,1;p0,10,0,5;p0,0,99,5;");
        check.due("his party does not come", party.day(5, 60, 0), 0);
    }

    /** "of n .. minutes from now on (nothing changes by it)": k counts from now, the sailings before do not. */
    private static void dayFromNowOn() {
        AgesFerry x = Check.laid(NINE.replace("T", "60"));
        check.due("not before", x.day(9999, 60, 0), 0);
        x.pass(1);
        check.due("in the last minute", x.day(9999, 60, 0), 1);
        check.due("by the draw of 59", x.day(9999, 60, 1), 2);
        x.pass(59);
        check.due("in the first minute", x.day(9999, 1, 1), 3);
        x.board(8);
        x.sail();
        check.row("before", x::count, 9, 10, 60, 8, 0, 1, 0, 1, 8, 0, 4);
        check.due("sailings in it alone", x.day(9999, 1, 0), 1);
        check.due("coins of these alone", x.day(9999, 1, 1), 3);
        check.row("nothing changes", x::count, 9, 10, 60, 8, 0, 1, 0, 1, 8, 0, 4);
        check.due("the same again", x.day(9999, 1, 1), 3);
    }

    /** "if he can": who is ACROSS or DEAD can't, though the DRAW is still of as many as there are. */
    private static void dayOfNobody() {
        AgesFerry x = Check.laid("f1,9,1;p0,10,0,0;p0,11,0,0;p0,12,0,0;");
        x.die(0);
        check.due("day 9999 draws 0, who is dead", x.day(9999, 1, 0), 0);
        check.due("day 0 draws 1", x.day(0, 1, 1), 1);
        x.board(1);
        x.sail();
        check.due("day 0 draws 1, who is across", x.day(0, 1, 0), 0);
        x.die(2);
        check.due("nobody is left", x.day(0, 60, 0), 0);
        check.due("nor coins", x.day(0, 60, 1), 0);
    }

    /** "2 at most": FULL; back of nothing: NO. */
    private static void keptTwo() {
        AgesFerry x = new AgesFerry();
        check.due("nothing kept", x.back(), -2);
        check.due("keep", x.keep(), 1);
        check.due("kept", x.count(11), 1);
        check.due("keep", x.keep(), 2);
        check.due("kept", x.count(11), 2);
        check.due("a third", x.keep(), -3);
        check.due("kept", x.count(11), 2);
        check.due("back", x.back(), 1);
        check.due("room again", x.keep(), 2);
        check.due("back", x.back(), 1);
        check.due("back", x.back(), 0);
        check.due("nothing more", x.back(), -2);
        check.due("kept", x.count(11), 0);
    }

    private static void each(IntConsumer act, int many) {
        for (int i = 1; i <= many; i++) {
            act.accept(i);
        }
    }

    /** "As KEPT last (it is KEPT no more then): how many are left; nothing is UNDONE then." */
    private static void keptBack() {
        AgesFerry x = Check.laid("f1,9,2;p2,19,0,0;p0,7,3,0;");
        x.keep();
        x.board(0);
        x.sail();
        x.keep();
        x.die(1);
        each(x::pass, 8);
        check.due("eight can be undone", x.count(10), 8);
        check.due("back to the last", x.back(), 1);
        check.row("as it stood", x::count, 2, 10, 0, 1, 0, 0, 0, 1, 18, 0, 0, 1);
        check.due("sailings made", x.person(0, 5), 1);
        check.places("as it stood", x, "10");
        check.due("nothing can be undone", x.undo(), -2);
        x.pass(60);
        check.due("but what is done behind it", x.undo(), 0);
        check.due("back to the first", x.back(), 0);
        check.row("as it stood", x::count, 2, 10, 0, 1, 0, 0, 0, 0, 0, 0, 0, 0);
        check.due("sailings made", x.person(0, 5), 0);
        check.due("he counts as then", x.board(0), 19);
        check.due("a refused back", x.back(), -2);
        check.due("leaves what can be undone", x.undo(), 0);
    }

    /** "all as it stands, but what is TOLD and THE TEXT (these stay by back() ..)" */
    private static void keptStays() {
        AgesFerry x = Check.laid("f1,0,0;p0,10,0,0;");
        x.tell(1, 9);
        x.keep();
        x.forget();
        each(i -> x.tell(1, 10), 5);
        x.wipe();
        each(i -> x.write('f'), 200);
        check.due("back", x.back(), 0);
        check.due("told as now", x.count(9), 5);
        check.due("and what was told last", x.liar(), 512);
        check.due("letters as now", x.count(12), 200);
        x.keep();
        x.wipe();
        x.forget();
        x.back();
        check.due("nothing told, as now", x.forget(), 0);
        check.due("no letters, as now", x.wipe(), 0);
        x.keep();
        each(x::pass, 3);
        check.due("what is kept leaves what can be undone", x.undo(), 2);
        check.due("and undone leaves what is kept", x.count(11), 1);
        Check.write(x, "p0,1,0,0;");
        check.due("lay", x.lay(), 1);
        check.due("nothing is kept then", x.back(), -2);
    }

    /** "How many: 0 PERSONS, .. 12 letters of THE TEXT. BAD." */
    private static void countNumbers() {
        AgesFerry x = new AgesFerry();
        for (int what = -40; what <= 60; what++) {
            boolean right = what >= 0 && what <= 12;
            check.due("count(" + what + ")", x.count(what) == -1 ? 1 : 0, right ? 0 : 1);
        }
        check.due("the lowest", x.count(LOW), -1);
        check.due("the highest", x.count(HIGH), -1);
    }

    /** Each count at its least. */
    private static void countLeast() {
        AgesFerry x = Check.laid("f1,0,0;p0,0,1,0;");
        x.wipe();
        check.row("least", x::count, 1, 10, 0, 0, 0, 0, 0, 0, 0, 0, 0, 0, 0, -1);
    }

    /** Each count at its most: all nine at one place, five told, eight undone, two kept, 200 letters. */
    private static void countMost() {
        String nine = "p0,99,0,0;".repeat(9);
        AgesFerry x = Check.laid("f99,99,9;" + nine);
        Check.write(x, "x".repeat(150));
        check.row("all on the quay", x::count, 9, 990, 0, 9, 0, 0, 0, 0, 0, 0, 0, 0, 200);
        each(p -> x.board(p - 1), 9);
        each(i -> x.tell(511, 999), 6);
        each(i -> x.keep(), 3);
        check.row("all aboard", x::count, 9, 990, 0, 0, 9, 0, 0, 0, 0, 5, 8, 2, 200);
        each(p -> x.die(p - 1), 9);
        check.row("all dead", x::count, 9, 990, 0, 0, 0, 0, 9, 0, 0, 5, 8, 2, 200);
        AgesFerry across = Check.laid("f80,99,9;" + nine);
        each(p -> across.board(p - 1), 9);
        across.sail();
        check.row("all across", across::count, 9, 800, 0, 0, 0, 9, 0, 1, 819, 0, 8, 0, 99);
        AgesFerry single = Check.laid("f1,89,9;" + nine);
        for (int p = 0; p < 9; p++) {
            single.board(p);
            single.sail();
        }
        check.row("nine sailings", single::count, 9, 10, 0, 0, 0, 9, 0, 9, 9 * 801, 0, 8, 0, 98);
    }
}
