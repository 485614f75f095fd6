/** The bounds in Terms 3 and Promises 14 to 18; above each method the words of ../shared/DOC.md that name them. */
public final class SetsEdgesTest {
    private static final Check check = new Check("SetsEdgesTest");
    private static final int LOW = Integer.MIN_VALUE, HIGH = Integer.MAX_VALUE;

    public static void main(String[] args) {
        bestOfFirstAndLast();
        bestByCoins();
        bestByPersons();
        bestByBits();
        bestOfThose();
        bestNone();
        waitOfEachMinute();
        waitFirst();
        waitNone();
        sailingsOfEachNumber();
        sailingsBeforeCoins();
        leftLowest();
        comeOrNot();
        countNow();
        forOfFewAndMany();
        forOfEachPlace();
        oddOfEach();
        oddOfNone();
        wrongWhats();
        check.end();
    }

    /** The age of each person, who is plain, there at minute 0 and of no party. */
    private static AgesFerry ages(String ferry, int... ages) {
        StringBuilder text = new StringBuilder(ferry);
        for (int age : ages) {
            text.append("p0,").append(age).append(",0,0;");
        }
        return Check.laid(text.toString());
    }

    /** Nine of the one age, but for one of the other. */
    private static AgesFerry nineBut(String ferry, int age, int one, int other) {
        int[] all = new int[9];
        java.util.Arrays.fill(all, age);
        all[one] = other;
        return ages(ferry, all);
    }

    /** "that of fewest coins .. then the lowest as bits; its coins": each person alone, all nine. */
    private static void bestOfFirstAndLast() {
        for (int p = 0; p < 9; p++) {
            check.row("best of " + p + " alone", nineBut("f1,5,3;", 1, p, 15)::best, 1 << p, 15, -1);
        }
        check.row("best of all nine", nineBut("f9,9,2;", 10, 4, 11)::best, 511, 2);
        check.row("best of eight", nineBut("f8,9,2;", 10, 0, 99)::best, 510, 0);
        check.row("none over rather than 89", ages("f1,99,9;", 99, 10)::best, 2, 0);
        check.row("one of 99", ages("f1,99,9;", 99)::best, 1, 801);
        AgesFerry party = Check.laid("f1,99,9;p0,99,0,1;p0,10,0,1;");
        check.row("99 over at 9", party::best, 3, 891);
        AgesFerry beyond = Check.laid("f1,99,9;p0,99,0,1;p0,11,0,1;");
        check.row("100 over", beyond::best, -4, -4);
    }

    /** "of fewest coins": one coin less goes before fewer PERSONS and lower bits. */
    private static void bestByCoins() {
        check.row("30 of three, 31 of one", ages("f3,1,1;", 31, 10, 10, 10)::best, 14, 0);
        check.row("30 of the last, 31 of the first", ages("f3,1,1;", 31, 30)::best, 2, 0);
        check.row("38 and 39", ages("f3,9,1;", 39, 38)::best, 2, 8);
        check.row("for nothing they are alike", ages("f3,1,0;", 31, 10, 10, 10)::best, 1, 0);
    }

    /** "of several that of fewest PERSONS": before lower bits. */
    private static void bestByPersons() {
        check.row("two before one and two", ages("f3,0,1;", 10, 20, 30)::best, 4, 0);
        check.row("two rather than three", ages("f3,0,1;", 10, 10, 10, 25, 5)::best, 24, 0);
        check.row("one of no age is one more", ages("f3,0,1;", 0, 30)::best, 2, 0);
        check.row("eight rather than nine", ages("f8,0,0;", 0, 10, 10, 10, 10, 10, 10, 10, 10)::best, 510, 0);
    }

    /** "then the lowest as bits" */
    private static void bestByBits() {
        check.row("all alike", nineBut("f1,0,0;", 10, 0, 10)::best, 1, 0);
        check.row("pairs", nineBut("f2,0,0;", 10, 0, 10)::best, 3, 0);
        check.row("0 and 3, 1 and 2", ages("f3,0,0;", 10, 11, 19, 20)::best, 6, 0);
        check.row("1 and 2, 0 and 3", ages("f3,0,0;", 11, 10, 20, 19)::best, 6, 0);
        check.row("0 and 8, 1 and 2", ages("f3,0,0;", 1, 14, 16, 0, 0, 0, 0, 0, 29)::best, 6, 0);
        check.row("the last two", ages("f3,0,0;", 0, 0, 0, 0, 0, 0, 0, 14, 16)::best, 384, 0);
    }

    /** "of SETS of those on the QUAY and aboard": not of who has not come, nor is ACROSS, nor DEAD. */
    private static void bestOfThose() {
        AgesFerry x = Check.laid("f1,9,1;p0,10,7,0;p0,11,0,0;p0,12,0,0;p0,13,0,0;p0,14,0,0;");
        check.row("0 has not come", x::best, 2, 1);
        x.board(1);
        check.row("1 is aboard", x::best, 2, 1);
        x.sail();
        check.row("1 is across", x::best, 4, 2);
        x.die(2);
        check.row("2 is dead", x::best, 8, 3);
        Check.until(x, 6);
        check.row("in minute 6", x::best, 8, 3);
        x.pass(1);
        check.row("in minute 7", x::best, 1, 0);
    }

    /** "none": NONE, and BAD before it. */
    private static void bestNone() {
        AgesFerry[] all = {ages("f1,0,0;", 9), ages("f1,0,0;", 11), Check.laid("f1,0,0;p0,10,1,0;"),
            Check.laid("f1,0,0;p0,10,0,1;p0,0,1,1;"), Check.laid("f1,9,0;p3,10,0,0;"), Check.laid("f1,9,0;p1,10,0,0;")};
        for (AgesFerry x : all) {
            check.row("none", x::best, -4, -4, -1);
            check.due("BAD before NONE", x.best(-1), -1);
            check.due("nobody is in one", x.count(3) > 0 ? x.setsFor(0) : 0, 0);
        }
    }

    /** "behind how many minutes (0 to 99) there is such a SET first" */
    private static void waitOfEachMinute() {
        for (int t = 0; t <= 99; t++) {
            AgesFerry x = Check.laid("f1,0,0;p0,10," + t + ",0;");
            check.due("for minute " + t, x.waits(), t);
            if (t > 0) {
                Check.until(x, t - 1);
                check.due("one before", x.waits(), 1);
                check.due("no set yet", x.best(0), -4);
                x.pass(1);
            }
            check.due("at minute " + t, x.waits(), 0);
            check.due("a set", x.best(0), 1);
            x.pass(60);
            check.due("later", x.waits(), 0);
            x.board(0);
            check.due("aboard", x.waits(), 0);
        }
    }

    /** "such a SET first": the first of several, all of whom must have come. */
    private static void waitFirst() {
        AgesFerry x = Check.laid("f2,0,0;p0,10,99,0;p0,10,50,0;p0,10,49,0;p0,20,98,0;");
        check.due("two, by minute 50", x.waits(), 50);
        x.die(2);
        check.due("one, by minute 98", x.waits(), 98);
        x.die(3);
        check.due("two, by minute 99", x.waits(), 99);
        x.die(1);
        check.due("none", x.waits(), -4);
        AgesFerry party = Check.laid("f1,0,0;p0,10,0,1;p0,0,99,1;");
        check.due("his party comes at 99", party.waits(), 99);
        party.die(1);
        check.due("his party is dead", party.waits(), 0);
        AgesFerry soldiers = Check.laid("f1,0,0;p3,10,0,0;p3,0,99,0;");
        check.due("the second soldier comes at 99", soldiers.waits(), 99);
    }

    /** WAIT: "none." */
    private static void waitNone() {
        check.due("9 of 10", ages("f1,0,0;", 9).waits(), -4);
        check.due("11 of 10", ages("f1,0,0;", 11).waits(), -4);
        check.due("11 of 10, one borne", ages("f1,1,0;", 11).waits(), 0);
        check.due("nine are 891 of 900", nineBut("f90,0,0;", 99, 0, 99).waits(), -4);
        check.due("nine are 891 of 890", nineBut("f89,1,0;", 99, 0, 99).waits(), 0);
        AgesFerry x = ages("f1,0,0;", 10);
        x.board(0);
        x.sail();
        check.due("who could is across", x.waits(), -4);
        AgesFerry y = Check.laid("f1,0,0;p0,10,9,0;");
        y.die(0);
        check.due("who could is dead", y.waits(), -4);
    }

    /** "the most SETS that SAIL, nobody in two of them": none to nine of them; LEFT of none to all. */
    private static void sailingsOfEachNumber() {
        for (int many = 0; many <= 9; many++) {
            int[] ages = new int[9];
            for (int p = 0; p < 9; p++) {
                ages[p] = p < many ? 15 : 1;
            }
            int left = 511 & ~((1 << many) - 1);
            check.row(many + " sets", ages("f1,5,2;", ages)::sailings, many, 10 * many, left, -1);
            check.row(many + " sets of persons as many", manyOf(many)::sailings, many, 0, 0, -1);
        }
        AgesFerry pairs = nineBut("f2,0,0;", 10, 0, 10);
        check.row("four pairs of nine", pairs::sailings, 4, 0, 1);
        check.row("three threes of nine", nineBut("f3,0,0;", 10, 0, 10)::sailings, 3, 0, 0);
        check.row("all nine in one", nineBut("f9,0,0;", 10, 0, 10)::sailings, 1, 0, 0);
        check.row("the dearest nine", nineBut("f1,99,9;", 99, 0, 99)::sailings, 9, 9 * 801, 0);
    }

    /** So many of ten years; none is one of nine years who has died. */
    private static AgesFerry manyOf(int many) {
        AgesFerry x = Check.laid("f1,0,0;" + "p0,10,0,0;".repeat(Math.max(1, many)));
        if (many == 0) {
            x.die(0);
        }
        return x;
    }

    /** "the most SETS ..; of all ways for so many the fewest coins together; LEFT" in this order. */
    private static void sailingsBeforeCoins() {
        check.row("two for 9 rather than one for none", ages("f1,9,1;", 10, 19)::sailings, 2, 9, 0);
        check.row("one left rather than one coin", ages("f1,1,1;", 10, 1)::sailings, 1, 0, 2);
        check.row("for nothing nobody is left", ages("f1,1,0;", 10, 1)::sailings, 1, 0, 0);
        check.row("the first left rather than a coin", ages("f1,9,1;", 1, 10)::sailings, 1, 0, 1);
        check.row("fewest together, not fewest of one", ages("f2,9,1;", 10, 10, 11, 11)::sailings, 2, 2, 0);
        check.row("two of those who could go as one", ages("f1,10,1;", 10, 10)::sailings, 2, 0, 0);
        check.row("nine of those who could go as one", nineBut("f1,99,1;", 10, 0, 10)::sailings, 9, 0, 0);
        AgesFerry apart = Check.laid("f3,20,1;p0,30,0,0;p0,30,0,0;p3,10,0,0;p3,10,0,0;");
        check.row("soldiers apart, who count nothing so", apart::sailings, 2, 0, 0);
        AgesFerry together = Check.laid("f3,9,1;p3,15,0,0;p0,30,0,0;p0,30,0,0;p3,20,0,0;");
        check.row("soldiers together, who make a third", together::sailings, 3, 5, 0);
    }

    /** "LEFT: who of these is in none of them by such a way, of several the lowest as bits" */
    private static void leftLowest() {
        check.row("1 or 2", ages("f1,0,0;", 6, 4, 4)::sailings, 1, 0, 2);
        check.row("0 or 8", ages("f1,0,0;", 4, 99, 99, 99, 99, 99, 99, 6, 4)::sailings, 1, 0, 1 + 126);
        check.row("2, or 0 and 1", ages("f1,0,0;", 2, 3, 5, 5)::sailings, 1, 0, 3);
        check.row("those of no age go along", ages("f1,0,9;", 0, 10, 0, 0)::sailings, 1, 0, 0);
        check.row("all are left", nineBut("f1,0,0;", 9, 0, 9)::sailings, 0, 0, 511);
    }

    /** "of all that are neither ACROSS nor DEAD (come or not ..)" */
    private static void comeOrNot() {
        AgesFerry x = Check.laid("f1,3,2;p0,13,99,0;p0,13,0,0;p0,13,0,0;p0,13,0,0;p0,9,99,0;");
        check.row("all", x::sailings, 4, 24, 16);
        x.board(1);
        check.row("one aboard", x::sailings, 4, 24, 16);
        x.sail();
        check.row("one across", x::sailings, 3, 18, 16);
        x.die(0);
        check.row("one dead who had not come", x::sailings, 2, 12, 16);
        x.die(2);
        check.row("one dead", x::sailings, 1, 6, 16);
        x.die(4);
        check.row("none to be left", x::sailings, 1, 6, 0);
        x.die(3);
        check.row("nobody, so none for nothing", x::sailings, 0, 0, 0);
    }

    /** "as all count now": a HIRED one by what he has made, SOLDIERS by two, a PARTY whole. */
    private static void countNow() {
        AgesFerry hired = Check.laid("f1,0,0;p2,20,0,0;p0,10,0,0;p2,10,0,0;");
        check.row("20 is too old", hired::sailings, 2, 0, 1);
        hired.board(2);
        hired.sail();
        check.row("10 is 0 now, and goes along", hired::sailings, 1, 0, 1);
        AgesFerry other = Check.laid("f1,99,0;p2,20,0,0;p0,10,0,0;");
        other.board(0);
        other.sail();
        check.row("20 is 10 now", other::sailings, 2, 0, 0);
        check.row("one soldier", Check.laid("f1,0,0;p3,10,0,0;")::sailings, 0, 0, 1);
        check.row("two soldiers", Check.laid("f1,0,0;p3,10,0,0;p3,0,99,0;")::sailings, 1, 0, 0);
        check.row("four soldiers", Check.laid("f1,0,0;p3,5,0,0;p3,5,0,0;p3,5,0,0;p3,5,0,0;")::sailings, 2, 0, 0);
        check.row("a party of two", Check.laid("f1,0,0;p0,10,0,5;p0,10,0,5;p0,10,0,0;")::sailings, 1, 0, 3);
        check.row("none of a party", Check.laid("f1,0,0;p0,10,0,0;p0,10,0,0;p0,10,0,0;")::sailings, 3, 0, 0);
    }

    /** "FOR a PERSON: how many SETS .. that SAIL he is in": none to all 256. */
    private static void forOfFewAndMany() {
        check.row("none", nineBut("f1,0,0;", 9, 0, 9)::setsFor, 0, 0, 0, 0, 0, 0, 0, 0, 0, -1);
        check.row("all", nineBut("f1,99,0;", 10, 0, 10)::setsFor, 256, 256, 256, 256, 256, 256, 256, 256, 256, -1);
        check.row("0 with any", nineBut("f1,0,0;", 0, 0, 10)::setsFor, 256, 128, 128, 128, 128, 128, 128, 128, 128, -1);
        check.row("8 with any", nineBut("f1,0,0;", 0, 8, 10)::setsFor, 128, 128, 128, 128, 128, 128, 128, 128, 256, -1);
        check.row("one each", nineBut("f1,0,0;", 10, 0, 10)::setsFor, 1, 1, 1, 1, 1, 1, 1, 1, 1, -1);
        check.row("one alone", ages("f1,0,0;", 10)::setsFor, 1, -1);
    }

    /** "BAD; NO: he is neither on the QUAY nor aboard." */
    private static void forOfEachPlace() {
        AgesFerry x = Check.laid("f1,9,2;p0,1,9,0;p0,12,0,0;p0,11,0,0;p0,14,0,0;p0,16,0,0;");
        x.board(3);
        x.sail();
        x.die(4);
        x.board(2);
        check.places("each place", x, "01234");
        check.row("each place", x::setsFor, -2, 1, 1, -2, -2, -1);
        Check.until(x, 8);
        check.due("the minute before", x.setsFor(0), -2);
        x.pass(1);
        check.due("he has come", x.setsFor(0), 2);
        check.due("and goes with 1", x.setsFor(1), 2);
        int[] nobody = {-1, 5, 9, 32, 33, 64, LOW, HIGH};
        for (int p : nobody) {
            check.due("setsFor " + p, x.setsFor(p), -1);
        }
    }

    /** "ODD ONES: those of them that are in none (bits)": each alone, none, all. */
    private static void oddOfEach() {
        for (int p = 0; p < 9; p++) {
            check.due(p + " alone", nineBut("f1,0,0;", 10, p, 9).oddOnes(), 1 << p);
            check.due("all but " + p, nineBut("f1,0,0;", 9, p, 10).oddOnes(), 511 - (1 << p));
        }
        check.due("none", nineBut("f1,0,0;", 10, 0, 10).oddOnes(), 0);
        check.due("all", nineBut("f1,0,0;", 9, 0, 9).oddOnes(), 511);
        check.due("one", ages("f1,0,0;", 9).oddOnes(), 1);
    }

    /** ODD ONES are "of them": on the QUAY or aboard. */
    private static void oddOfNone() {
        AgesFerry x = Check.laid("f1,0,0;p0,9,5,0;p0,9,0,0;p0,9,0,0;p0,10,0,0;");
        check.due("two on the quay", x.oddOnes(), 6);
        x.board(1);
        check.due("one aboard", x.oddOnes(), 6);
        x.board(3);
        x.stepOff(1);
        x.sail();
        check.due("not across", x.oddOnes(), 6);
        x.die(1);
        check.due("not dead", x.oddOnes(), 4);
        x.die(2);
        check.due("nobody is there", x.oddOnes(), 0);
        Check.until(x, 5);
        check.due("one comes", x.oddOnes(), 1);
    }

    /** "the set (what = 0), coins (1). NONE; BAD."; "how many (what = 0), coins (1), LEFT (2; bits). BAD." */
    private static void wrongWhats() {
        AgesFerry x = ages("f1,5,2;", 12, 9);
        int[] best = {1, 4};
        int[] sailings = {1, 4, 2};
        for (int what = -9; what <= 15; what++) {
            check.due("best(" + what + ")", x.best(what), what >= 0 && what <= 1 ? best[what] : -1);
            check.due("sailings(" + what + ")", x.sailings(what), what >= 0 && what <= 2 ? sailings[what] : -1);
        }
        int[] far = {LOW, HIGH};
        for (int what : far) {
            check.due("best(" + what + ")", x.best(what), -1);
            check.due("sailings(" + what + ")", x.sailings(what), -1);
        }
    }
}
