/** The bounds in Terms 4 (told, sums) and Promises 19 to 23; above each method the words of ../shared/DOC.md. */
public final class ToldEdgesTest {
    private static final Check check = new Check("ToldEdgesTest");
    private static final int LOW = Integer.MIN_VALUE, HIGH = Integer.MAX_VALUE;
    private static final String THREE = "p0,10,0,0;p1,20,50,0;p2,99,0,1;";

    public static void main(String[] args) {
        bitsOfPersons();
        sOfThousand();
        fiveTold();
        forgotten();
        nothingTold();
        liarOfEachAge();
        liarFrom0To99();
        liarInAll();
        liarOfEachPlace();
        ageOfEach();
        ageNone();
        ageFree();
        wrongNumbers();
        sumsOfFewAndMany();
        sumsOneAtLeast();
        sumsUnlike();
        sumsNearest();
        sumsOfThose();
        check.end();
    }

    /** "BAD (bits: of PERSONS such as there are, one at least)" */
    private static void bitsOfPersons() {
        for (int many = 1; many <= 9; many++) {
            String text = "p0,10,0,0;".repeat(many);
            for (int bits = -5; bits <= 1030; bits++) {
                boolean right = bits >= 1 && bits < 1 << many;
                AgesFerry x = Check.laid(text);
                check.due("tell of " + bits + " of " + many, x.tell(bits, 10), right ? 1 : -1);
                check.due("told", x.count(9), right ? 1 : 0);
            }
            int[] far = {LOW, HIGH, LOW + 1, 1 << 16, -(1 << 9)};
            for (int bits : far) {
                check.due("tell of " + bits, Check.laid(text).tell(bits, 10), -1);
            }
        }
    }

    /** "that the AGES of some PERSONS (bits) are s (0 to 999) together" */
    private static void sOfThousand() {
        for (int s = -20; s <= 1020; s++) {
            AgesFerry x = new AgesFerry();
            boolean right = s >= 0 && s <= 999;
            check.due("tell that it is " + s, x.tell(511, s), right ? 1 : -1);
            check.due("told", x.count(9), right ? 1 : 0);
        }
        check.due("the lowest", new AgesFerry().tell(1, LOW), -1);
        check.due("the highest", new AgesFerry().tell(1, HIGH), -1);
        AgesFerry nine = Check.laid("p0,99,0,0;".repeat(9));
        nine.tell(511, 891);
        check.due("nine of 99 are 891", nine.liar(), 512);
        AgesFerry none = Check.laid("p0,0,0,0;".repeat(9));
        none.tell(511, 0);
        check.due("nine of 0 are 0", none.liar(), 512);
        none.forget();
        none.tell(511, 999);
        check.due("nobody alone makes it 999", none.liar(), 0);
    }

    /** "TOLD (5 at most)"; "FULL", BAD before it. */
    private static void fiveTold() {
        AgesFerry x = Check.laid(THREE);
        for (int i = 1; i <= 5; i++) {
            check.due("tell " + i, x.tell(1, 10), i);
            check.due("told", x.count(9), i);
        }
        check.due("a sixth", x.tell(1, 10), -3);
        check.due("a sixth of the same", x.tell(7, 999), -3);
        check.due("told", x.count(9), 5);
        check.due("the sixth is not there", x.liar(), 512 + 6);
        check.due("BAD before FULL: nobody", x.tell(0, 10), -1);
        check.due("BAD before FULL: a fourth person", x.tell(8, 10), -1);
        check.due("BAD before FULL: s", x.tell(1, -1), -1);
        check.due("BAD before FULL: s", x.tell(1, 1000), -1);
        AgesFerry fifth = Check.laid(THREE);
        for (int i = 1; i <= 4; i++) {
            fifth.tell(1, 10);
        }
        check.due("four are so", fifth.liar(), 512 + 6);
        fifth.tell(1, 11);
        check.due("the fifth counts", fifth.liar(), 0);
    }

    /** "Nothing is TOLD: how many were." */
    private static void forgotten() {
        for (int many = 0; many <= 5; many++) {
            AgesFerry x = Check.laid(THREE);
            for (int i = 0; i < many; i++) {
                x.tell(7, 0);
            }
            check.due("forget " + many, x.forget(), many);
            check.due("told", x.count(9), 0);
            check.due("liar", x.liar(), 512 + 7);
            check.due("forget again", x.forget(), 0);
            check.due("tell behind it", x.tell(1, 10), 1);
            check.due("nothing can be undone", x.undo(), -2);
        }
    }

    /** Where nothing is TOLD "all that is TOLD would be so" of any age. */
    private static void nothingTold() {
        for (int many = 1; many <= 9; many++) {
            AgesFerry x = Check.laid("p0,0,0,0;".repeat(many - 1) + "p0,99,99,0;");
            check.due("liar of " + many, x.liar(), 512 + (1 << many) - 1);
            check.row("the first one's age", what -> x.age(0, what), 0, 99, -1);
            int last = many - 1;
            check.row("the last one's age", what -> x.age(last, what), 0, 99, -1);
        }
    }

    /** "were the AGE of that one another one (0 to 99)"; "512 more, if it is so as it is" */
    private static void liarOfEachAge() {
        int[] owns = {0, 1, 50, 98, 99};
        for (int own : owns) {
            for (int s = 0; s <= 101; s++) {
                AgesFerry x = Check.laid("p0,7,0,0;p0," + own + ",0,0;p0,8,0,0;");
                x.tell(2, s);
                int want = s == own ? 512 + 5 : s <= 99 ? 2 : 0;
                check.due("liar of " + own + " told to be " + s, x.liar(), want);
                check.due("lowest", x.age(1, 0), s <= 99 ? s : -4);
                check.due("highest", x.age(1, 1), s <= 99 ? s : -4);
                check.due("another one's lowest", x.age(0, 0), s == own ? 0 : -4);
                check.due("another one's highest", x.age(2, 1), s == own ? 99 : -4);
            }
        }
    }

    /** The age by which it would be so is none below 0 and none above 99. */
    private static void liarFrom0To99() {
        for (int s = 0; s <= 240; s++) {
            AgesFerry x = Check.laid(THREE);
            x.tell(7, s);
            int bits = 0;
            int[] ages = {10, 20, 99};
            for (int p = 0; p < 3; p++) {
                int needs = s - (129 - ages[p]);
                boolean can = needs >= 0 && needs <= 99;
                bits |= can && needs != ages[p] ? 1 << p : 0;
                check.due("lowest of " + p + " by " + s, x.age(p, 0), can ? needs : -4);
                check.due("highest of " + p + " by " + s, x.age(p, 1), can ? needs : -4);
            }
            check.due("liar by " + s, x.liar(), bits + (s == 129 ? 512 : 0));
        }
    }

    /** "all that is TOLD would be so": one that is not rules him out, be it the first, the last, of him or not. */
    private static void liarInAll() {
        for (int wrong = 0; wrong < 5; wrong++) {
            AgesFerry x = Check.laid(THREE);
            AgesFerry y = Check.laid(THREE);
            for (int i = 0; i < 5; i++) {
                x.tell(1, i == wrong ? 12 : 11);
                y.tell(i == wrong ? 2 : 1, i == wrong ? 20 : 11);
            }
            check.due("one against four", x.liar(), 0);
            check.row("no age for all", what -> x.age(0, what), -4, -4);
            check.due("one of another", y.liar(), 1);
            check.row("his age", what -> y.age(0, what), 11, 11);
            check.row("the other one can't", what -> y.age(1, what), -4, -4);
        }
        AgesFerry two = Check.laid("p0,10,0,0;p0,20,0,0;p0,99,0,0;");
        two.tell(1, 11);
        two.tell(2, 21);
        check.due("two are not", two.liar(), 0);
        two.tell(3, 32);
        check.due("nor by a third", two.liar(), 0);
    }

    /** The AGES are those laid, wherever one is, whatever he counts. */
    private static void liarOfEachPlace() {
        AgesFerry x = Check.laid("f1,99,2;p1,50,9,0;p3,20,0,0;p1,60,0,0;p2,40,0,0;p0,16,0,0;p0,14,0,0;");
        x.board(3);
        x.board(4);
        x.sail();
        x.die(5);
        x.board(2);
        check.places("each place", x, "012134");
        x.tell(63, 200);
        check.due("all their ages", x.liar(), 512);
        x.forget();
        x.tell(63, 201);
        check.due("each may be one older", x.liar(), 63);
        check.row("lowest", p -> x.age(p, 0), 51, 21, 61, 41, 17, 15, -1);
    }

    /** "AGE of one: the lowest, the highest of 0 to 99 such that, were that his AGE, all .. would be so" */
    private static void ageOfEach() {
        AgesFerry nine = Check.laid("p0,11,0,0;".repeat(9));
        nine.tell(511, 88);
        check.row("all of nine can be 0", p -> nine.age(p, 0), 0, 0, 0, 0, 0, 0, 0, 0, 0, -1);
        nine.forget();
        nine.tell(511, 187);
        check.row("all of nine can be 99", p -> nine.age(p, 1), 99, 99, 99, 99, 99, 99, 99, 99, 99, -1);
        nine.forget();
        nine.tell(511, 188);
        check.row("none can be 100", p -> nine.age(p, 1), -4, -4, -4, -4, -4, -4, -4, -4, -4, -1);
        nine.forget();
        nine.tell(511, 87);
        check.row("none can be less than 0", p -> nine.age(p, 0), -4, -4, -4, -4, -4, -4, -4, -4, -4, -1);
    }

    /** "NONE; BAD.": BAD before NONE. */
    private static void ageNone() {
        AgesFerry x = Check.laid(THREE);
        x.tell(1, 100);
        check.row("none of 0 to 99", what -> x.age(0, what), -4, -4, -1);
        check.due("BAD before NONE", x.age(0, -1), -1);
        check.due("BAD before NONE", x.age(3, 0), -1);
        check.due("BAD before NONE", x.age(-1, 1), -1);
    }

    /** Who is in nothing TOLD can be 0 and 99, if it is so as it is. */
    private static void ageFree() {
        AgesFerry x = Check.laid(THREE);
        x.tell(6, 119);
        check.row("in none", what -> x.age(0, what), 0, 99);
        check.row("in it", what -> x.age(1, what), 20, 20);
        check.row("in it, the eldest", what -> x.age(2, what), 99, 99);
        check.due("he alone may be another age", x.liar(), 512 + 1);
        x.tell(6, 118);
        check.row("in none, but it is not so", what -> x.age(0, what), -4, -4);
        check.due("nobody", x.liar(), 0);
    }

    /** "BAD: a number is none that is told (PERSONS: such as there are)" */
    private static void wrongNumbers() {
        for (int many = 1; many <= 9; many++) {
            AgesFerry x = Check.laid("p0,7,0,0;".repeat(many));
            for (int p = -2; p <= 66; p++) {
                check.due("age of " + p + " of " + many, x.age(p, 1), p >= 0 && p < many ? 99 : -1);
            }
        }
        AgesFerry x = Check.laid("f2,0,0;p0,7,0,0;");
        for (int what = -9; what <= 15; what++) {
            check.due("age's " + what, x.age(0, what), what == 0 ? 0 : what == 1 ? 99 : -1);
            check.due("sums(" + what + ")", x.sums(what), what == 0 ? 1 : what == 1 ? 7 : -1);
        }
        int[] far = {LOW, HIGH};
        for (int n : far) {
            check.due("age of " + n, x.age(n, 0), -1);
            check.due("age's " + n, x.age(0, n), -1);
            check.due("sums(" + n + ")", x.sums(n), -1);
        }
    }

    /** "how many unlike SUMS there are of SETS": none, one, all 511. */
    private static void sumsOfFewAndMany() {
        check.row("one", Check.laid("f1,0,0;p0,99,0,0;")::sums, 1, 99, -1);
        check.row("nine alike", Check.laid("f99,0,0;" + "p0,99,0,0;".repeat(9))::sums, 9, 891, -1);
        check.row("nine of no age", Check.laid("f1,0,0;" + "p0,0,0,0;".repeat(9))::sums, 1, 0, -1);
        check.row("nine babes", Check.laid("f1,0,0;" + "p1,99,0,0;".repeat(9))::sums, 9, 9, -1);
        int[] ages = {1, 2, 4, 8, 16, 32, 64, 99, 98};
        StringBuilder text = new StringBuilder("f50,0,0;");
        for (int age : ages) {
            text.append("p0,").append(age).append(",0,0;");
        }
        check.row("each of 1 to 324", Check.laid(text.toString())::sums, 324, 324, -1);
    }

    /** "(one at least in each)": nobody makes no SUM, one of no age makes 0; "none". */
    private static void sumsOneAtLeast() {
        AgesFerry nobody = Check.laid("f1,0,0;p0,10,1,0;");
        check.row("nobody there", nobody::sums, 0, -4, -1);
        check.due("BAD before NONE", nobody.sums(2), -1);
        check.due("BAD before NONE", nobody.sums(-1), -1);
        nobody.pass(1);
        check.row("one there", nobody::sums, 1, 10);
        check.row("one of 0", Check.laid("f1,0,0;p0,0,0,0;")::sums, 1, 0);
        check.row("5 and not 0", Check.laid("f1,0,0;p0,5,0,0;")::sums, 1, 5);
        check.row("0, 5", Check.laid("f1,0,0;p0,5,0,0;p0,0,0,0;")::sums, 2, 5);
        check.row("a soldier alone is 0", Check.laid("f1,0,0;p3,50,0,0;")::sums, 1, 0);
    }

    /** "unlike SUMS": the same SUM of two SETS is one. */
    private static void sumsUnlike() {
        check.row("10, 20 and 30", Check.laid("f9,0,0;p0,10,0,0;p0,10,0,0;p0,10,0,0;")::sums, 3, 30);
        check.row("1, 2, 3 by two", Check.laid("f9,0,0;p0,1,0,0;p0,2,0,0;p0,3,0,0;")::sums, 6, 6);
        check.row("0, 0 and 9 of soldiers", Check.laid("f9,0,0;p3,4,0,0;p3,5,0,0;")::sums, 2, 9);
    }

    /** "that nearest to what the FERRY wants, of two the lower" */
    private static void sumsNearest() {
        int[][] rows = {{10, 30, 10}, {11, 29, 11}, {12, 29, 12}, {11, 28, 28}, {20, 21, 20}, {19, 21, 19},
            {18, 21, 21}, {19, 20, 20}, {0, 40, 0}, {0, 39, 39}, {0, 41, 0}, {99, 99, 99}};
        for (int[] r : rows) {
            String low = "p0," + r[0] + ",0,0;";
            String high = "p0," + r[1] + ",0,0;";
            check.due(r[0] + " or " + r[1], Check.laid("f2,0,0;" + low + high).sums(1), r[2]);
            check.due(r[1] + " or " + r[0], Check.laid("f2,0,0;" + high + low).sums(1), r[2]);
        }
        check.due("wants the most", Check.laid("f99,0,0;p0,1,0,0;p0,2,0,0;").sums(1), 3);
        check.due("wants the least", Check.laid("f1,0,0;p0,98,0,0;p0,99,0,0;").sums(1), 98);
        check.due("what it bears does not matter", Check.laid("f1,99,0;p0,9,0,0;p0,12,0,0;").sums(1), 9);
    }

    /** "of SETS of those on the QUAY and aboard": any, not only such as sail. */
    private static void sumsOfThose() {
        AgesFerry x = Check.laid("f2,0,0;p0,1,9,0;p0,2,0,1;p0,4,0,0;p0,20,0,0;p0,16,0,0;p0,32,60,1;");
        x.board(3);
        x.sail();
        x.die(4);
        x.board(2);
        check.places("each place", x, "012340");
        check.row("2, 4, 6, the party apart", x::sums, 3, 6);
        Check.until(x, 8);
        check.row("the minute before", x::sums, 3, 6);
        x.pass(1);
        check.row("with 1", x::sums, 7, 7);
        Check.until(x, 60);
        check.row("with 32, one nearer than 7", x::sums, 15, 32);
    }
}
