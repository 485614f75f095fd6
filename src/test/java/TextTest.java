/** Promises 1 to 6: a new object, the text, its faults, laying it, the persons. */
public final class TextTest {
    private static final Check check = new Check("TextTest");

    public static void main(String[] args) {
        constants();
        newObject();
        writing();
        wiping();
        faults();
        laying();
        layingClears();
        withoutFerry();
        persons();
        check.end();
    }

    private static void constants() {
        check.due("BAD", AgesFerry.BAD, -1);
        check.due("NO", AgesFerry.NO, -2);
        check.due("FULL", AgesFerry.FULL, -3);
        check.due("NONE", AgesFerry.NONE, -4);
    }

    private static void newObject() {
        AgesFerry x = new AgesFerry();
        check.row("new count", x::count, 9, 120, 0, 3, 0, 0, 0, 0, 0, 0, 0, 0, 0, -1);
        check.row("kind", p -> x.person(p, 0), 0, 0, 1, 0, 2, 3, 3, 0, 0, -1);
        check.row("age", p -> x.person(p, 1), 70, 45, 0, 38, 90, 24, 31, 52, 12, -1);
        check.row("comes", p -> x.person(p, 2), 0, 0, 0, 2, 3, 5, 5, 8, 1, -1);
        check.row("party", p -> x.person(p, 3), 0, 1, 1, 1, 0, 2, 2, 0, 0, -1);
        check.row("trips", p -> x.person(p, 5), 0, 0, 0, 0, 0, 0, 0, 0, 0, -1);
        check.places("new", x, "111000000");
        check.due("fault of the empty text", x.fault(), -4);
        check.due("the empty text laid", x.lay(), -2);
        check.due("first letter", x.write('f'), 1);
        x.pass(8);
        x.board(0);
        x.board(7);
        check.due("costs 1 each", x.sum(4), 2);
        x.stepOff(0);
        x.stepOff(7);
        x.die(1);
        x.board(2);
        x.board(3);
        x.board(4);
        check.due("90, 38 and the babe are 9 over", x.sum(2), 9);
        check.due("and that is borne", x.sail(), 9);
        AgesFerry other = new AgesFerry();
        check.due("another object has its own minute", other.count(2), 0);
        check.due("another object has its own text", other.count(12), 0);
    }

    private static void writing() {
        AgesFerry x = new AgesFerry();
        int[] none = {31, 127, 0, -1, 10, 256 + 65, Integer.MIN_VALUE, Integer.MAX_VALUE};
        for (int letter : none) {
            check.due("write " + letter, x.write(letter), -1);
        }
        check.due("nothing was written", x.count(12), 0);
        check.due("write 32", x.write(32), 1);
        check.due("write 126", x.write(126), 2);
        for (int i = 3; i <= 200; i++) {
            check.due("write letter " + i, x.write('a'), i);
        }
        check.due("write letter 201", x.write('a'), -3);
        check.due("BAD goes before FULL", x.write(31), -1);
        check.due("full length", x.count(12), 200);
    }

    private static void wiping() {
        AgesFerry x = Check.write(new AgesFerry(), "f1,2,3;");
        check.due("wipe", x.wipe(), 7);
        check.due("wiped length", x.count(12), 0);
        check.due("wipe again", x.wipe(), 0);
        check.due("the laid stays", x.count(0), 9);
        Check.write(x, "xyz");
        check.due("fault of new letters", x.fault(), 0);
        x.wipe();
        check.due("fault of wiped letters", x.fault(), -4);
        for (int i = 0; i < 200; i++) {
            x.write('p');
        }
        check.due("wipe of a full text", x.wipe(), 200);
        check.due("write behind it", x.write('p'), 1);
    }

    private static void faultOf(String text, int want) {
        check.due("fault of " + text, Check.write(new AgesFerry(), text).fault(), want);
    }

    private static void faults() {
        String[] right = {"", "f1,0,0;", "f99,99,9;", "f01,00,09;", "p0,0,0,0;", "p3,99,99,5;", "p03,09,00,05;",
            "f1,0,0;f2,0,0;p1,1,1,1;f3,0,0;", "p0,1,1,1;f10,9,1;"};
        for (String text : right) {
            faultOf(text, -4);
        }
        String[] wrong = {"f0,0,0;", "f00,0,0;", "f100,0,0;", "f1,100,0;", "f1,0,10;", "f1,0;", "f1,0,0,0;", "f1,0,0",
            "f1,0,0,", "f,0,0;", "f1,,0;", "f1,0,;", "f;", "f", "f1", "f1;0;0;", "f1,0,0:", "f-1,0,0;", "f 1,0,0;",
            "F1,0,0;", "f001,0,0;", "p4,0,0,0;", "p0,100,0,0;", "p0,0,100,0;", "p0,0,0,6;", "p0,0,0;", "p0,0,0,0,0;",
            "p0,0,0,0", "p0,0,0,", "p", "p;", "p,,,;", "P0,0,0,0;", "p0,0,0,000;", "p0.0.0.0;", " p0,0,0,0;", ";", ",",
            "1", "x", "~", "p0,0,0,10;", "p10,0,0,0;", "pp0,0,0,0;", "p0,0,0,0/", "p0,0,:,0;", "p/,0,0,0;"};
        for (String text : wrong) {
            faultOf(text, 0);
            faultOf("f9,9,9;" + text, 7);
            faultOf("p2,33,4,5;" + text, 10);
            faultOf("f9,9,9;" + text + "p0,0,0,0;", 7);
        }
        faultOf("p0,0,0,0; ", 9);
        faultOf("p0,0,0,0;;", 9);
        faultOf("p0,0,0,9;x", 0);
        String nine = "p0,0,0,0;".repeat(9);
        faultOf(nine, -4);
        faultOf(nine + "f1,1,1;", -4);
        faultOf(nine + "p0,0,0,0;", 81);
        faultOf(nine + "f1,1,1;p0,0,0,0;", 88);
        faultOf("f1,1,1;".repeat(28) + "    ", 196);
        faultOf("f1,1,1;".repeat(20) + "p0,0,0,0;".repeat(6) + "f1,1,1", 194);
        faultOf("f11,1,1;".repeat(25), -4);
    }

    private static void layingOf(String text, int want) {
        AgesFerry x = Check.write(new AgesFerry(), text);
        x.pass(1);
        check.due("lay of " + text, x.lay(), want);
        check.due("the text stays: " + text, x.count(12), text.length());
        check.due("minute behind lay of " + text, x.count(2), want < 0 ? 1 : 0);
        check.due("persons behind lay of " + text, x.count(0), want < 0 ? 9 : want);
    }

    private static void laying() {
        layingOf("", -2);
        layingOf("f1,1,1;", -2);
        layingOf("x", -2);
        layingOf("p0,1,1,1;x", -2);
        layingOf("p0,1,1,1;f0,1,1;", -2);
        layingOf("p0,1,1,1;", 1);
        layingOf("f5,1,1;p0,1,1,1;p0,1,1,1;", 2);
        layingOf("p0,1,1,1;".repeat(9), 9);
        layingOf("p0,1,1,1;".repeat(10), -2);
        AgesFerry x = Check.laid("f5,1,1;p0,1,1,1;f7,2,3;p2,44,2,2;");
        check.due("the last ferry counts", x.count(1), 70);
        check.due("laid again", x.lay(), 2);
        x.write('!');
        check.due("laid with a fault", x.lay(), -2);
        check.due("still as laid", x.count(1), 70);
        check.due("still as laid", x.person(1, 1), 44);
        x.wipe();
        Check.write(x, "p1,5,0,0;");
        check.due("laid without a ferry", x.lay(), 1);
        check.due("the earlier ferry is gone", x.count(1), 100);
        check.due("the earlier persons are gone", x.person(1, 1), -1);
    }

    private static void layingClears() {
        AgesFerry x = Check.laid("f1,1,9;p0,10,0,0;p2,11,0,0;p0,3,0,0;p0,4,0,1;p0,4,1,1;");
        x.board(0);
        x.sail();
        x.board(1);
        x.sail();
        x.die(2);
        x.board(3);
        x.pass(3);
        x.tell(1, 5);
        x.keep();
        check.row("count before", x::count, 5, 10, 3, 2, 1, 1, 1, 2, 9, 1, 7, 1, 54);
        check.due("lay", x.lay(), 5);
        check.row("count behind lay", x::count, 5, 10, 0, 4, 0, 0, 0, 0, 0, 0, 0, 0, 54);
        check.places("lay", x, "11110");
        check.row("trips", p -> x.person(p, 5), 0, 0, 0, 0, 0);
        check.due("undo", x.undo(), -2);
        check.due("back", x.back(), -2);
        check.due("liar", x.liar(), 512 + 31);
        x.board(3);
        check.due("who sailed counts all his age again", x.board(1), 15);
        check.due("party as laid", x.sum(3), 0);
        AgesFerry y = Check.laid("f1,9,1;p3,9,0,1;p3,8,0,1;");
        y.board(0);
        y.wipe();
        Check.write(y, "f1,9,1;p0,9,0,0;p0,8,0,1;");
        y.lay();
        y.board(0);
        check.due("the soldiers laid before are gone", y.board(1), 17);
        y.stepOff(0);
        y.wipe();
        Check.write(y, "f1,9,1;p0,9,0,0;p0,10,0,1;");
        y.lay();
        y.board(1);
        check.due("the party laid before is gone", y.sail(), 0);
    }

    private static void withoutFerry() {
        AgesFerry x = Check.laid("p0,99,0,0;p0,10,0,0;p0,11,0,0;p0,1,0,0;");
        check.due("wants", x.count(1), 100);
        x.board(0);
        check.due("lacks", x.sum(1), 1);
        x.board(1);
        check.due("9 over sails", x.sum(3), 1);
        check.due("for 1 each", x.sum(4), 9);
        x.stepOff(1);
        x.board(2);
        check.due("10 over does not", x.sum(3), 0);
        x.stepOff(2);
        x.board(3);
        check.due("none over", x.sail(), 0);
    }

    private static void persons() {
        AgesFerry x = Check.laid("f1,5,2;p0,10,0,0;p1,99,7,5;p2,12,1,3;p3,0,99,1;");
        check.row("person 0", what -> x.person(0, what), 0, 10, 0, 0, 1, 0, -1);
        check.row("person 1", what -> x.person(1, what), 1, 99, 7, 5, 0, 0, -1);
        check.row("person 2", what -> x.person(2, what), 2, 12, 1, 3, 0, 0, -1);
        check.row("person 3", what -> x.person(3, what), 3, 0, 99, 1, 0, 0, -1);
        int[] none = {-1, 4, 9, Integer.MIN_VALUE, Integer.MAX_VALUE};
        for (int p : none) {
            check.due("person " + p, x.person(p, 0), -1);
        }
        int[] nothing = {-1, 6, Integer.MIN_VALUE, Integer.MAX_VALUE};
        for (int what : nothing) {
            check.due("person's " + what, x.person(0, what), -1);
        }
        x.board(0);
        check.places("board", x, "2000");
        x.sail();
        check.places("sail", x, "3000");
        check.due("sailings made", x.person(0, 5), 1);
        x.pass(1);
        x.board(2);
        check.due("hired sails", x.sail(), 4);
        check.places("sail", x, "3010");
        check.due("sailings made", x.person(2, 5), 1);
        check.due("his age stays", x.person(2, 1), 12);
        x.die(3);
        x.pass(5);
        check.places("6 minutes", x, "3014");
        x.pass(1);
        check.places("7 minutes", x, "3114");
        x.pass(60);
        x.pass(60);
        check.places("who died before he came does not come", x, "3114");
    }
}
