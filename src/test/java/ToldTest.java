/** Promises 19 to 23: what is told, who is not his age by it, the sums that sets can have. */
public final class ToldTest {
    private static final Check check = new Check("ToldTest");
    private static final int[] NO_WHAT = {-1, 2, Integer.MIN_VALUE, Integer.MAX_VALUE};

    public static void main(String[] args) {
        telling();
        forgetting();
        liars();
        ages();
        sums();
        check.end();
    }

    private static void telling() {
        AgesFerry x = Check.laid("p0,10,0,0;p1,20,50,0;p2,30,0,1;");
        int[] noBits = {0, -1, 8, 9, 512, Integer.MIN_VALUE, Integer.MAX_VALUE};
        for (int bits : noBits) {
            check.due("tell of " + bits, x.tell(bits, 1), -1);
        }
        int[] noSums = {-1, 1000, Integer.MIN_VALUE, Integer.MAX_VALUE};
        for (int s : noSums) {
            check.due("tell that it is " + s, x.tell(7, s), -1);
        }
        check.due("nothing is told", x.count(9), 0);
        check.due("tell", x.tell(7, 0), 1);
        check.due("tell", x.tell(1, 999), 2);
        check.due("the same again", x.tell(1, 999), 3);
        check.due("tell", x.tell(2, 5), 4);
        check.due("tell", x.tell(4, 5), 5);
        check.due("a sixth", x.tell(4, 5), -3);
        check.due("BAD goes before FULL", x.tell(8, 5), -1);
        check.due("BAD goes before FULL", x.tell(1, 1000), -1);
        check.due("told", x.count(9), 5);
        check.due("what is told can't be undone", x.undo(), -2);
    }

    private static void forgetting() {
        AgesFerry x = Check.laid("p0,10,0,0;p0,20,0,0;");
        check.due("nothing told", x.forget(), 0);
        x.tell(1, 5);
        x.tell(2, 5);
        check.due("nobody alone lies", x.liar(), 0);
        check.due("forget", x.forget(), 2);
        check.due("told", x.count(9), 0);
        check.due("all may be", x.liar(), 512 + 3);
        check.due("tell anew", x.tell(3, 30), 1);
        check.due("liar", x.liar(), 512);
        for (int i = 0; i < 4; i++) {
            x.tell(1, 10);
        }
        check.due("forget five", x.forget(), 5);
        check.due("room again", x.tell(1, 10), 1);
    }

    private static void liars() {
        AgesFerry x = Check.laid("f1,99,0;p0,10,0,0;p1,20,50,0;p2,30,0,1;p3,40,0,0;");
        check.due("nothing told", x.liar(), 512 + 15);
        x.tell(3, 30);
        check.due("so: who is told of is his age", x.liar(), 512 + 12);
        x.forget();
        x.tell(3, 31);
        check.due("one of the two", x.liar(), 3);
        x.tell(6, 51);
        check.due("he who is in both", x.liar(), 2);
        x.tell(5, 40);
        check.due("still he", x.liar(), 2);
        x.tell(2, 20);
        check.due("nobody alone", x.liar(), 0);
        x.forget();
        x.tell(15, 189);
        check.due("the first one can be 99", x.liar(), 1);
        x.forget();
        x.tell(15, 190);
        check.due("and not 100", x.liar(), 0);
        x.forget();
        x.tell(7, 40);
        check.due("0 at least", x.liar(), 6);
        x.forget();
        x.tell(15, 61);
        check.due("0 at least", x.liar(), 8);
        x.forget();
        x.tell(15, 59);
        check.due("none below 0", x.liar(), 0);
        x.forget();
        x.tell(4, 30);
        x.board(2);
        x.sail();
        x.die(3);
        check.due("the age is told, not what he counts", x.liar(), 512 + 11);
        x.tell(8, 41);
        check.due("the dead too", x.liar(), 8);
        AgesFerry nine = Check.laid("p0,0,0,0;".repeat(8) + "p0,99,0,0;");
        check.due("nine", nine.liar(), 1023);
        nine.tell(511, 98);
        check.due("only he can be younger", nine.liar(), 256);
    }

    private static void ages() {
        AgesFerry x = Check.laid("f1,99,0;p0,10,0,0;p1,20,50,0;p2,30,0,1;p3,40,0,0;");
        check.row("free", what -> x.age(1, what), 0, 99, -1);
        int[] none = {-1, 4, 9, Integer.MIN_VALUE, Integer.MAX_VALUE};
        for (int p : none) {
            check.due("age of " + p, x.age(p, 0), -1);
        }
        for (int what : NO_WHAT) {
            check.due("age's " + what, x.age(0, what), -1);
        }
        x.tell(3, 31);
        check.row("11", what -> x.age(0, what), 11, 11, -1);
        check.row("21", what -> x.age(1, what), 21, 21, -1);
        check.row("the others can't make it", what -> x.age(2, what), -4, -4, -1);
        check.due("BAD goes before NONE", x.age(2, 2), -1);
        check.due("BAD goes before NONE", x.age(4, 0), -1);
        x.tell(2, 21);
        check.row("both", what -> x.age(1, what), 21, 21);
        check.row("not both", what -> x.age(0, what), -4, -4);
        x.forget();
        x.tell(3, 119);
        check.row("99", what -> x.age(0, what), 99, 99);
        check.row("109 is no age", what -> x.age(1, what), -4, -4);
        x.forget();
        x.tell(3, 20);
        check.row("0", what -> x.age(0, what), 0, 0);
        x.forget();
        x.tell(12, 70);
        check.row("so as it is", what -> x.age(2, what), 30, 30);
        check.row("so whatever he is", what -> x.age(0, what), 0, 99);
    }

    private static void sums() {
        AgesFerry x = Check.laid("f2,0,0;p0,10,0,0;p0,10,0,0;p1,70,0,0;p3,25,0,0;p3,4,3,0;p0,50,9,1;");
        // 10, 20, 1, 11, 21 and 0 of a soldier alone
        check.row("without the empty set", x::sums, 6, 20, -1);
        x.board(0);
        check.row("aboard too", x::sums, 6, 20, -1);
        x.pass(3);
        // 29 more, to each of 0, 1, 10, 11, 20, 21
        check.row("two soldiers", x::sums, 12, 20, -1);
        x.die(0);
        // 0, 1, 10, 11 and 29 more to each
        check.row("of two the lower", x::sums, 8, 11, -1);
        x.die(1);
        // 0, 1, 29, 30
        check.row("29 is nearer than 1", x::sums, 4, 29, -1);
        x.die(2);
        x.die(3);
        check.row("a soldier alone is 0", x::sums, 1, 0, -1);
        x.die(4);
        check.row("nobody there", x::sums, 0, -4, -1);
        check.due("BAD goes before NONE", x.sums(2), -1);
        x.pass(6);
        check.row("parties do not matter", x::sums, 1, 50);
        for (int what : NO_WHAT) {
            check.due("sums " + what, x.sums(what), -1);
        }
        AgesFerry two = Check.laid("f2,0,0;p0,15,0,0;p0,25,0,0;");
        check.row("15 or 25", two::sums, 3, 15);
        AgesFerry turned = Check.laid("f2,0,0;p0,25,0,0;p0,15,0,0;");
        check.row("25 or 15", turned::sums, 3, 15);
        AgesFerry most = Check.laid("f99,0,0;" + "p0,99,0,0;".repeat(9));
        check.row("nine of 99", most::sums, 9, 891);
        AgesFerry all = Check.laid("f99,0,0;p0,1,0,0;p0,2,0,0;p0,4,0,0;p0,8,0,0;p0,16,0,0;p0,32,0,0;p0,64,0,0;");
        check.row("1 to 127", all::sums, 127, 127);
    }
}
