/** The bounds in Terms 1 and Promises 1 to 6; above each method the words of ../shared/DOC.md that name them. */
public final class TextEdgesTest {
    private static final Check check = new Check("TextEdgesTest");
    private static final String ONE = "p0,10,0,0;";
    /** 190 letters without a fault, the last ferry wanting 20 years. */
    private static final String LONG = "f1,1,1;" + "f11,1,1;".repeat(22) + "f2,5,3;";

    public static void main(String[] args) {
        calls512();
        asciiLetters();
        letters200();
        fullTextLaid();
        emptyText();
        figures();
        ferryNumbers();
        personNumbers();
        signs();
        missingLetters();
        withoutFerry();
        lastFerry();
        ninePersons();
        firstFault();
        personAtLeast();
        firstQuay();
        wiped();
        laidClears();
        laidTakesText();
        personsWhats();
        check.end();
    }

    /** "An object is used for at most 512 calls after it has been made" */
    private static void calls512() {
        AgesFerry passes = new AgesFerry();
        for (int i = 1; i <= 511; i++) {
            check.due("call " + i, passes.pass(60), 60 * i);
        }
        check.due("call 512 as any", passes.undo(), 7);
        AgesFerry letters = new AgesFerry();
        for (int i = 1; i <= 512; i++) {
            check.due("letter at call " + i, letters.write('p'), i <= 200 ? i : -3);
        }
        AgesFerry keeps = new AgesFerry();
        for (int i = 1; i <= 256; i++) {
            check.due("keep at call " + (2 * i - 1), keeps.keep(), 1);
            check.due("back at call " + 2 * i, keeps.back(), 0);
        }
        AgesFerry boards = new AgesFerry();
        for (int i = 1; i <= 256; i++) {
            check.due("board at call " + (2 * i - 1), boards.board(0), 70);
            check.due("stepOff at call " + 2 * i, boards.stepOff(0), 0);
        }
        AgesFerry hired = Check.laid("f1,89,9;p2,99,0,0;");
        int coins = 0;
        for (int i = 0; i < 9; i++) {
            hired.board(0);
            coins += hired.sail();
            check.due("coins so far", hired.count(8), coins);
        }
        check.due("99 and 89 .. and 19, less 10 each, for 9", coins, 9 * (89 + 79 + 69 + 59 + 49 + 39 + 29 + 19 + 9));
        check.due("nine sailings", hired.person(0, 5), 9);
    }

    /** "A letter (32 to 126, as in ASCII) comes behind THE TEXT: how long it is. BAD" */
    private static void asciiLetters() {
        for (int letter = -300; letter <= 400; letter++) {
            AgesFerry x = new AgesFerry();
            boolean right = letter >= 32 && letter <= 126;
            check.due("write " + letter, x.write(letter), right ? 1 : -1);
            check.due("letters behind write " + letter, x.count(12), right ? 1 : 0);
            check.due("fault behind write " + letter, x.fault(), right ? 0 : -4);
        }
        int[] far = {1 << 16 | 'f', 1 << 31 | 'f', 256 + 'f', Integer.MIN_VALUE, Integer.MAX_VALUE};
        for (int letter : far) {
            check.due("write " + letter, new AgesFerry().write(letter), -1);
        }
    }

    /** "A TEXT is letters (200 at most)"; "Of several the first in this order": BAD before FULL. */
    private static void letters200() {
        AgesFerry x = Check.write(new AgesFerry(), LONG + "p0,9,0,0;");
        check.due("199 letters", x.count(12), 199);
        check.due("the 200th", x.write('f'), 200);
        check.due("fault at the last place", x.fault(), 199);
        check.due("the 201st", x.write(';'), -3);
        check.due("the 201st, the lowest", x.write(32), -3);
        check.due("the 201st, the highest", x.write(126), -3);
        check.due("BAD before FULL", x.write(31), -1);
        check.due("BAD before FULL", x.write(127), -1);
        check.due("still 200", x.count(12), 200);
        check.due("the fault is where it was", x.fault(), 199);
        check.due("not laid", x.lay(), -2);
        check.due("wipe", x.wipe(), 200);
        check.due("the first again", x.write('p'), 1);
    }

    /** "A TEXT is letters (200 at most)": one of 199, one of 200 without fault. */
    private static void fullTextLaid() {
        AgesFerry shorter = Check.write(new AgesFerry(), LONG + "p0,9,0,4;");
        check.due("199 letters", shorter.count(12), 199);
        check.due("199 without fault", shorter.fault(), -4);
        check.due("199 laid", shorter.lay(), 1);
        check.due("the last figure is read", shorter.person(0, 3), 4);
        check.due("the last ferry is read", shorter.count(1), 20);
        AgesFerry full = Check.write(new AgesFerry(), LONG + "p0,20,0,5;");
        check.due("200 letters", full.count(12), 200);
        check.due("200 without fault", full.fault(), -4);
        check.due("200 laid", full.lay(), 1);
        check.due("the last figure is read", full.person(0, 3), 5);
        check.due("laid, THE TEXT stays full", full.write('f'), -3);
        AgesFerry cut = Check.write(new AgesFerry(), LONG + "p0,20,0,05;");
        check.due("the 201st letter is not there", cut.count(12), 200);
        check.due("so the last item is a fault", cut.fault(), 190);
        check.due("and not laid", cut.lay(), -2);
    }

    /** "THE TEXT is empty" of a new object and behind wipe(): no FAULT, but no PERSON. */
    private static void emptyText() {
        AgesFerry x = new AgesFerry();
        check.due("letters", x.count(12), 0);
        check.due("fault", x.fault(), -4);
        check.due("wipe", x.wipe(), 0);
        check.due("lay", x.lay(), -2);
        check.due("still the first quay", x.count(0), 9);
        check.due("still the first ferry", x.count(1), 120);
    }

    private static int faultOf(String text) {
        return Check.write(new AgesFerry(), text).fault();
    }

    private static String item(char letter, String[] numbers) {
        return letter + String.join(",", numbers) + ";";
    }

    /** "each a letter, then numbers (one or two figures)": none, one, two, three of them. */
    private static void figures() {
        String[][] items = {{"1", "0", "0"}, {"0", "0", "0", "0"}};
        for (int kind = 0; kind < 2; kind++) {
            char letter = kind == 0 ? 'f' : 'p';
            for (int i = 0; i < items[kind].length; i++) {
                String[] numbers = items[kind].clone();
                String[] forms = {"", "1", "01", "001", "000", "0001", "-1", "+1", " 1", "1 ", "1.0", "a", "0x", "1f"};
                for (String form : forms) {
                    numbers[i] = form;
                    boolean right = form.equals("1") || form.equals("01");
                    check.due("fault of " + item(letter, numbers), faultOf(item(letter, numbers)), right ? -4 : 0);
                }
            }
        }
    }

    /** "10 times L (1 to 99) YEARS, bears O (0 to 99) more, each of which costs C (0 to 9) coins" */
    private static void ferryNumbers() {
        int[] least = {1, 0, 0};
        int[] most = {99, 99, 9};
        for (int i = 0; i < 3; i++) {
            for (int value = 0; value <= 120; value++) {
                String[] plain = {"5", "5", "5"};
                plain[i] = "" + value;
                boolean right = value >= least[i] && value <= most[i];
                check.due("fault of " + item('f', plain), faultOf(item('f', plain)), right ? -4 : 0);
                plain[i] = value < 10 ? "0" + value : "" + value;
                check.due("fault of " + item('f', plain), faultOf(item('f', plain)), right ? -4 : 0);
            }
        }
        for (int value = 1; value <= 99; value++) {
            check.due("wants of L " + value, Check.laid("f" + value + ",0,0;" + ONE).count(1), 10 * value);
        }
        check.due("L of 0 is not laid", Check.write(new AgesFerry(), "f0,0,0;" + ONE).lay(), -2);
        check.due("C of 10 is not laid", Check.write(new AgesFerry(), "f1,0,10;" + ONE).lay(), -2);
    }

    /** "KIND K (0 .., 1 .., 2 .., 3 ..), AGE A (0 to 99), .. minute T (0 to 99), of PARTY G (0 to 5; 0: of none)" */
    private static void personNumbers() {
        int[] most = {3, 99, 99, 5};
        for (int i = 0; i < 4; i++) {
            for (int value = 0; value <= 120; value++) {
                String[] numbers = {"1", "2", "3", "4"};
                numbers[i] = "" + value;
                boolean right = value <= most[i];
                check.due("fault of " + item('p', numbers), faultOf(item('p', numbers)), right ? -4 : 0);
                numbers[i] = value < 10 ? "0" + value : "" + value;
                check.due("fault of " + item('p', numbers), faultOf(item('p', numbers)), right ? -4 : 0);
                AgesFerry x = Check.write(new AgesFerry(), item('p', numbers));
                check.due("lay of " + item('p', numbers), x.lay(), right ? 1 : -2);
                if (right) {
                    check.due("number " + i + " of " + item('p', numbers), x.person(0, i), value);
                }
            }
        }
    }

    /** "each a letter, then numbers .. parted by , and a ; behind the last one": any other letter at any place. */
    private static void signs() {
        String[] items = {"f55,55,5;", "p2,55,55,3;"};
        for (String item : items) {
            for (int place = 0; place < item.length(); place++) {
                char was = item.charAt(place);
                for (char letter = 32; letter <= 126; letter++) {
                    boolean figures = Character.isDigit(was) && Character.isDigit(letter);
                    boolean kind = item.charAt(0) == 'p' && place == 1 && letter > '3';
                    boolean party = item.charAt(0) == 'p' && place == 9 && letter > '5';
                    boolean right = letter == was || figures && !kind && !party;
                    String text = item.substring(0, place) + letter + item.substring(place + 1);
                    check.due("fault of " + text, faultOf(text), right ? -4 : 0);
                    check.due("fault of " + item + text, faultOf(item + text), right ? -4 : item.length());
                }
            }
        }
    }

    /** "and a ; behind the last one": an item that ends too soon, or goes on. */
    private static void missingLetters() {
        String[] items = {"f55,55,5;", "p2,55,55,3;"};
        for (String item : items) {
            for (int length = 1; length < item.length(); length++) {
                String cut = item.substring(0, length);
                check.due("fault of " + cut, faultOf(cut), 0);
                check.due("fault of " + item + cut, faultOf(item + cut), item.length());
                check.due("fault of " + cut + item, faultOf(cut + item), 0);
            }
            check.due("a number too many", faultOf(item.replace(";", ",1;")), 0);
            check.due("a number too few", faultOf(item.substring(0, item.lastIndexOf(',')) + ";"), 0);
            check.due("a , behind it", faultOf(item + ","), item.length());
            check.due("a ; behind it", faultOf(item + ";"), item.length());
            check.due("a blank behind it", faultOf(item + " "), item.length());
            check.due("a blank before it", faultOf(" " + item), 0);
        }
    }

    /** "(10, 9, 1 without; ..)" */
    private static void withoutFerry() {
        AgesFerry x = Check.laid("p0,99,0,0;p0,1,0,0;p0,9,0,0;p0,10,0,0;");
        check.due("100 years", x.count(1), 100);
        check.due("99", x.board(0), 99);
        check.row("99 of 100", x::sum, 99, 1, 0, 0, -4);
        x.board(1);
        check.row("100 of 100", x::sum, 100, 0, 0, 1, 0);
        x.board(2);
        check.row("109 of 100", x::sum, 109, 0, 9, 1, 9);
        x.stepOff(2);
        x.board(3);
        check.row("110 of 100", x::sum, 110, 0, 10, 0, -4);
    }

    /** "(.. of several such the last one counts)": all three numbers, before, between and behind PERSONS. */
    private static void lastFerry() {
        String[] texts = {"f9,9,9;f8,8,8;f1,5,3;" + ONE + "p0,5,0,0;", "f9,9,9;" + ONE + "p0,5,0,0;f1,5,3;",
            ONE + "f9,9,9;p0,5,0,0;f1,5,3;"};
        for (String text : texts) {
            AgesFerry x = Check.laid(text);
            check.due("wants of " + text, x.count(1), 10);
            x.board(0);
            x.board(1);
            check.row("15 of " + text, x::sum, 15, 0, 5, 1, 15);
        }
        AgesFerry first = Check.write(new AgesFerry(), "f1,5,3;" + ONE + "f0,5,3;");
        check.due("a last one with a fault is none", first.lay(), -2);
        check.due("its place", first.fault(), 17);
    }

    /** "9 at most, 0, 1, ..": the tenth is a FAULT at its place. */
    private static void ninePersons() {
        for (int many = 1; many <= 22; many++) {
            AgesFerry x = Check.write(new AgesFerry(), "p0,0,0,0;".repeat(many));
            check.due("fault of " + many, x.fault(), many <= 9 ? -4 : 81);
            check.due("lay of " + many, x.lay(), many <= 9 ? many : -2);
            check.due("persons", x.count(0), Math.min(many, 9));
        }
        StringBuilder longest = new StringBuilder("f99,99,9;");
        for (int p = 0; p < 9; p++) {
            longest.append("p3,").append(90 + p).append(",9").append(p).append(',').append(p % 6).append(';');
        }
        AgesFerry x = Check.laid(longest.toString());
        for (int p = 0; p < 9; p++) {
            check.due("the ages by 0, 1, ..", x.person(p, 1), 90 + p);
            check.due("the minutes by 0, 1, ..", x.person(p, 2), 90 + p);
        }
        check.due("a ferry behind nine", faultOf("p0,0,0,0;".repeat(9) + "f1,1,1;"), -4);
        check.due("the tenth behind that", faultOf("p0,0,0,0;".repeat(9) + "f1,1,1;p0,0,0,0;"), 88);
    }

    /** "FAULT: the place (from 0 on) of the first letter of the first ITEM that is not so." */
    private static void firstFault() {
        check.due("at 0", faultOf("x"), 0);
        check.due("of two the first", faultOf("f0,0,0;p9,9,9,9;"), 0);
        check.due("of two the first, behind a right one", faultOf(ONE + "p0,0,0,6;f0,0,0;"), 10);
        check.due("not where in the item", faultOf("f1,1,1;p0,100,0,0;"), 7);
        check.due("its first letter, though it ends at 200", faultOf("f1,1,1;".repeat(28) + "f1,1"), 196);
        check.due("the last letter of 200", faultOf("f1,1,1;" + "f11,1,1;".repeat(24) + "p"), 199);
        check.due("right items behind it do not mend it", faultOf("f1,1,1;f1,1,1" + "f1,1,1;".repeat(3)), 7);
        AgesFerry x = Check.write(new AgesFerry(), "f1,1,1;p0,0,0,0");
        check.due("an open item", x.fault(), 7);
        check.due("its end", x.write(';'), 16);
        check.due("is without fault", x.fault(), -4);
    }

    /** "LAID is a TEXT without FAULT, of a PERSON at least (NO else ..)" */
    private static void personAtLeast() {
        check.due("none", Check.write(new AgesFerry(), "f1,1,1;").lay(), -2);
        check.due("none in 28 items", Check.write(new AgesFerry(), "f1,1,1;".repeat(28)).lay(), -2);
        check.due("one", Check.write(new AgesFerry(), "p0,0,0,0;").lay(), 1);
        check.due("one with a fault", Check.write(new AgesFerry(), "p0,0,0,0;p").lay(), -2);
        AgesFerry x = Check.write(new AgesFerry(), "f1,1,1;");
        x.lay();
        check.due("NO: the ferry is the first one still", x.count(1), 120);
        Check.write(x, ONE);
        check.due("one more item", x.lay(), 1);
        check.due("it is laid", x.count(1), 10);
    }

    /** "at first f12,9,1;p0,70,0,0;..": what stands in a new object is what that text lays. */
    private static void firstQuay() {
        String text = "f12,9,1;p0,70,0,0;p0,45,0,1;p1,0,0,1;p0,38,2,1;p2,90,3,0;"
                + "p3,24,5,2;p3,31,5,2;p0,52,8,0;p0,12,1,0;";
        AgesFerry laid = Check.laid(text);
        check.due("letters", laid.wipe(), text.length());
        check.same("laid", Look.at(laid), Look.at(new AgesFerry()));
        check.due("BAD", AgesFerry.BAD, -1);
        check.due("NO", AgesFerry.NO, -2);
        check.due("FULL", AgesFerry.FULL, -3);
        check.due("NONE", AgesFerry.NONE, -4);
    }

    /** "THE TEXT is empty: how long it was." */
    private static void wiped() {
        int[] lengths = {0, 1, 199, 200};
        for (int length : lengths) {
            AgesFerry x = Check.write(new AgesFerry(), "f".repeat(length));
            check.due("wipe of " + length, x.wipe(), length);
            check.due("fault then", x.fault(), -4);
            check.due("wipe again", x.wipe(), 0);
            check.due("lay then", x.lay(), -2);
            Check.write(x, ONE);
            check.due("nothing of it is left", x.fault(), -4);
        }
        AgesFerry laid = Check.laid(ONE);
        laid.wipe();
        check.due("what is laid stays", laid.person(0, 1), 10);
    }

    /** "minute 0, nobody aboard, ACROSS, DEAD, nothing TOLD, UNDONE, KEPT; THE TEXT stays" */
    private static void laidClears() {
        String text = "f1,9,2;p0,10,0,0;p2,19,0,0;p0,7,0,0;p0,8,0,0;p0,9,60,0;";
        AgesFerry x = Check.laid(text);
        x.board(0);
        x.sail();
        x.board(1);
        x.sail();
        x.die(2);
        x.keep();
        x.keep();
        x.board(3);
        for (int i = 0; i < 5; i++) {
            x.tell(1, 1);
            x.pass(60);
        }
        check.row("before", x::count, 5, 10, 300, 2, 1, 1, 1, 2, 18, 5, 8, 2, text.length());
        check.due("lay", x.lay(), 5);
        check.row("behind", x::count, 5, 10, 0, 4, 0, 0, 0, 0, 0, 0, 0, 0, text.length());
        check.places("lay", x, "11110");
        check.row("sailings made", p -> x.person(p, 5), 0, 0, 0, 0, 0);
        check.due("nothing told", x.liar(), 512 + 31);
        check.due("nothing undone", x.undo(), -2);
        check.due("nothing kept", x.back(), -2);
        check.due("THE TEXT stays", x.wipe(), text.length());
        check.same("as new", Look.at(x), look(text));
    }

    private static String look(String text) {
        AgesFerry x = Check.laid(text);
        x.wipe();
        return Look.at(x);
    }

    /** "LAID: how many PERSONS": of a text with fewer, with more, with as many as laid before. */
    private static void laidTakesText() {
        for (int before = 1; before <= 9; before += 4) {
            for (int behind = 1; behind <= 9; behind += 4) {
                AgesFerry x = Check.laid("f2,7,1;" + "p3,20,0,1;".repeat(before));
                x.wipe();
                String text = "p0,50,0,0;".repeat(behind);
                Check.write(x, text);
                check.due("lay", x.lay(), behind);
                x.wipe();
                check.same(behind + " behind " + before, Look.at(x), look(text));
            }
        }
        AgesFerry one = Check.laid("p3,20,0,0;p3,30,0,0;");
        one.wipe();
        Check.write(one, "p3,20,0,0;p0,30,0,0;");
        one.lay();
        one.board(0);
        check.due("the second soldier is none any more", one.board(1), 30);
        AgesFerry party = Check.laid("f2,0,0;p0,20,0,3;p0,30,0,3;");
        party.wipe();
        Check.write(party, "f2,0,0;p0,20,0,3;p0,30,0,2;");
        party.lay();
        party.board(0);
        check.due("nor is the second one of the party", party.sail(), 0);
    }

    /** "KIND (what = 0), .. sailings made (5). BAD." and "PERSONS: such as there are" */
    private static void personsWhats() {
        for (int many = 1; many <= 9; many++) {
            AgesFerry x = Check.laid("p1,22,33,4;".repeat(many));
            int[] wants = {1, 22, 33, 4, 0, 0};
            for (int p = -3; p <= 70; p++) {
                boolean there = p >= 0 && p < many;
                check.due("person " + p + " of " + many, x.person(p, 1), there ? 22 : -1);
            }
            for (int what = -3; what <= 9; what++) {
                boolean told = what >= 0 && what <= 5;
                check.due("the last one's " + what, x.person(many - 1, what), told ? wants[what] : -1);
                check.due("the next one's " + what, x.person(many, what), -1);
            }
        }
    }
}
