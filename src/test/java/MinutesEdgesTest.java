/** The bounds in Terms 2 and Promises 7 to 13; above each method the words of ../shared/DOC.md that name them. */
public final class MinutesEdgesTest {
    private static final Check check = new Check("MinutesEdgesTest");
    private static final int[] NOBODY = {-1, 9, 32, 64, Integer.MIN_VALUE, Integer.MAX_VALUE};

    public static void main(String[] args) {
        minute0();
        minuteT();
        plainAndBabe();
        hired();
        soldiers();
        wantsAndBears();
        costs();
        parties();
        partyOfAll();
        sumWhats();
        passes();
        places();
        wrongPersons();
        dies();
        sails();
        undoneOfEach();
        undoneLast8();
        undoneIsNot();
        check.end();
    }

    /** "At minute 0 nobody is aboard." */
    private static void minute0() {
        AgesFerry[] all = {new AgesFerry(), Check.laid("f1,0,0;" + "p0,10,0,0;".repeat(9)), Check.laid("p0,0,0,0;")};
        for (AgesFerry x : all) {
            check.due("minute", x.count(2), 0);
            check.due("aboard", x.count(4), 0);
            check.due("their sum", x.sum(0), 0);
            check.due("they all lack", x.sum(1), x.count(1));
            check.due("no set sails", x.sum(3), 0);
            check.due("so the ferry does not", x.sail(), -2);
            check.due("sailings", x.count(7), 0);
        }
    }

    /** "On the QUAY is who has come (it is minute T or later)" */
    private static void minuteT() {
        for (int t = 0; t <= 99; t++) {
            AgesFerry x = Check.laid("p0,10," + t + ",0;");
            if (t > 0) {
                Check.until(x, t - 1);
                check.due("the minute before " + t, x.person(0, 4), 0);
                check.due("on the quay before " + t, x.count(3), 0);
                check.due("board before " + t, x.board(0), -2);
                x.pass(1);
            }
            check.due("minute", x.count(2), t);
            check.due("at " + t, x.person(0, 4), 1);
            check.due("on the quay at " + t, x.count(3), 1);
            x.pass(1);
            check.due("later than " + t, x.person(0, 4), 1);
            check.due("board behind " + t, x.board(0), 10);
        }
    }

    /** "a PLAIN one counts his AGE; a BABE 1" */
    private static void plainAndBabe() {
        for (int age = 0; age <= 99; age++) {
            AgesFerry x = Check.laid("p0," + age + ",0,0;p1," + age + ",0,0;");
            check.due("plain of " + age, x.board(0), age);
            check.due("a babe of " + age + " more", x.board(1), age + 1);
            check.due("the babe alone", x.stepOff(0), 1);
        }
        AgesFerry babes = Check.laid("f1,0,0;" + "p1,99,0,0;".repeat(8) + "p0,2,0,0;");
        check.due("eight babes", Check.aboard(babes, 255).sum(0), 8);
        check.due("one short of sailing", babes.sum(1), 2);
        check.due("and one of 2", babes.board(8), 10);
        check.due("sail", babes.sail(), 0);
    }

    /** "a HIRED one his AGE, 10 less for each sailing he has made (0 at least)" */
    private static void hired() {
        for (int age = 0; age <= 99; age++) {
            AgesFerry x = Check.laid("f1,99,0;p2," + age + ",0,0;" + "p0,10,0,0;".repeat(8));
            for (int made = 0; made <= 8; made++) {
                check.due("hired of " + age + " behind " + made, x.board(0), Math.max(0, age - 10 * made));
                check.due("sailings made", x.person(0, 5), made);
                if (made < 8) {
                    x.board(1 + made);
                    check.due("sail", x.sail(), 0);
                }
            }
            check.due("his age stays", x.person(0, 1), age);
        }
        AgesFerry eldest = Check.laid("f1,89,0;p2,99,0,0;p0,10,0,0;p0,10,0,0;");
        for (int made = 0; made <= 8; made++) {
            check.due("99 behind " + made, eldest.board(0), 99 - 10 * made);
            check.due("sails alone", eldest.sail(), 0);
        }
        check.due("9 behind 9", eldest.board(0), 9);
        check.due("does not sail alone", eldest.sail(), -2);
        eldest.board(1);
        eldest.sail();
        check.due("0 behind 10", eldest.board(0), 0);
        eldest.board(2);
        eldest.sail();
        check.due("0 behind 11", eldest.board(0), 0);
        check.due("eleven sailings made", eldest.person(0, 5), 11);
    }

    /** "a SOLDIER his AGE, if there are two SOLDIERS or more in it, else nothing" */
    private static void soldiers() {
        String seven = "p3,1,0,0;p3,2,0,0;p3,4,0,0;p3,8,0,0;p3,16,0,0;p3,32,0,0;p3,64,0,0;p0,99,0,0;";
        for (int set = 0; set < 128; set++) {
            int want = Integer.bitCount(set) >= 2 ? set : 0;
            AgesFerry x = Check.aboard(Check.laid(seven), set);
            check.due("soldiers " + set, x.sum(0), want);
            check.due("and one of 99", x.board(7), want + 99);
        }
        AgesFerry none = Check.laid("p3,0,0,0;p3,99,0,0;p0,98,0,0;");
        check.due("one soldier of 0", none.board(0), 0);
        check.due("the second is of 99", none.board(1), 99);
        check.due("soldiers not in it do not count", none.stepOff(0), 0);
        AgesFerry dead = Check.laid("p3,5,0,0;p3,6,0,0;");
        Check.aboard(dead, 3);
        dead.die(0);
        check.due("the other one is dead", dead.sum(0), 0);
    }

    private static AgesFerry ofSum(String ferry, int sum) {
        int first = Math.min(99, sum);
        return Check.aboard(Check.laid(ferry + "p0," + first + ",0,0;p0," + (sum - first) + ",0,0;"), 3);
    }

    /** "It SAILS, if its SUM is no less than the FERRY wants, and no more than O over that" */
    private static void wantsAndBears() {
        int[][] ferries = {{1, 0}, {1, 1}, {1, 98}, {1, 99}, {2, 50}, {10, 9}, {10, 98}, {19, 0}, {19, 8}, {19, 9}};
        for (int[] f : ferries) {
            int wants = 10 * f[0];
            for (int sum = 0; sum <= 198; sum++) {
                AgesFerry x = ofSum("f" + f[0] + "," + f[1] + ",3;", sum);
                boolean able = sum >= wants && sum <= wants + f[1];
                String call = sum + " of " + wants + " and " + f[1];
                check.due("sum " + call, x.sum(0), sum);
                check.due("lacks " + call, x.sum(1), sum < wants ? wants - sum : 0);
                check.due("over " + call, x.sum(2), sum > wants ? sum - wants : 0);
                check.due("can " + call, x.sum(3), able ? 1 : 0);
                check.due("coins " + call, x.sum(4), able ? 3 * (sum - wants) : -4);
                check.due("sail " + call, x.sail(), able ? 3 * (sum - wants) : -2);
                check.due("aboard behind " + call, x.count(4), able ? 0 : 2);
            }
        }
        AgesFerry most = Check.laid("f99,99,9;" + "p0,99,0,0;".repeat(9));
        Check.aboard(most, 511);
        check.row("the highest sum of the dearest ferry", most::sum, 891, 99, 0, 0, -4);
        AgesFerry over = Check.laid("f1,0,9;" + "p0,99,0,0;".repeat(9));
        Check.aboard(over, 511);
        check.row("the highest sum of the lowest ferry", over::sum, 891, 0, 881, 0, -4);
        AgesFerry just = Check.laid("f80,91,9;" + "p0,99,0,0;".repeat(9));
        check.row("all nine, 91 over", Check.aboard(just, 511)::sum, 891, 0, 91, 1, 819);
    }

    /** "each of which costs C (0 to 9) coins"; "what is over costs its coins" */
    private static void costs() {
        for (int price = 0; price <= 9; price++) {
            check.due("none over", ofSum("f1,99," + price + ";", 10).sail(), 0);
            check.due("one over", ofSum("f1,99," + price + ";", 11).sail(), price);
            check.due("99 over", ofSum("f1,99," + price + ";", 109).sail(), 99 * price);
        }
    }

    /** "of each PARTY (but 0) of which one is in it all are that are neither ACROSS nor DEAD (come or not)" */
    private static void parties() {
        for (int party = 0; party <= 5; party++) {
            String two = "f1,9,1;p2,15,0," + party + ";p0,0,T," + party + ";p0,4,0,0;";
            boolean alone = party == 0;
            AgesFerry quay = Check.laid(two.replace("T", "0"));
            quay.board(0);
            check.due("the other one on the quay, party " + party, quay.sum(3), alone ? 1 : 0);
            quay.board(1);
            check.due("both of party " + party, quay.sum(4), 5);
            quay.board(2);
            check.due("and one of none", quay.sum(4), 9);
            check.due("sail", quay.sail(), 9);
            quay.board(0);
            check.due("the hired one again, lacking 5", quay.sum(1), 5);
            AgesFerry late = Check.laid(two.replace("T", "9"));
            late.board(0);
            check.due("the other one not come, party " + party, late.sail(), alone ? 5 : -2);
            AgesFerry dead = Check.laid(two.replace("T", "9"));
            dead.board(0);
            dead.die(1);
            check.due("the other one dead, party " + party, dead.sail(), 5);
            AgesFerry across = Check.laid(two.replace("T", "0").replace("p2,15", "p2,19"));
            Check.aboard(across, 3);
            across.sail();
            across.board(0);
            check.due("the other one across: 9 only", across.sum(1), 1);
            across.board(2);
            check.due("the other one across, party " + party, across.sail(), 3);
        }
    }

    /** A PARTY of one, of all nine, and the last of five PARTIES. */
    private static void partyOfAll() {
        AgesFerry nine = Check.laid("f1,0,0;p0,10,0,5;" + "p0,0,0,5;".repeat(8));
        check.due("eight of nine", Check.aboard(nine, 255).sail(), -2);
        nine.board(8);
        check.due("nine of nine", nine.sail(), 0);
        check.due("all across", nine.count(5), 9);
        AgesFerry each = Check.laid("f1,99,0;p0,10,0,1;p0,10,0,2;p0,10,0,3;p0,10,0,4;p0,10,0,5;p0,1,0,0;p0,0,0,5;");
        check.due("each of a party of his own, but the last", Check.aboard(each, 31).sum(3), 0);
        check.due("without the last", Check.aboard(each, 15).sum(3), 1);
        check.due("with all of the last", Check.aboard(each, 31 + 64).sum(3), 1);
        check.due("the others of party 0 may stay", each.sail(), 0);
    }

    /** "SUM (what = 0), how much it lacks (1 ..), is over (2 ..), 1 if .. (3), coins .. (4 ..). BAD." */
    private static void sumWhats() {
        AgesFerry x = ofSum("f1,9,2;", 14);
        int[] wants = {14, 0, 4, 1, 8};
        for (int what = -9; what <= 15; what++) {
            check.due("sum(" + what + ")", x.sum(what), what >= 0 && what <= 4 ? wants[what] : -1);
        }
        check.due("the lowest", x.sum(Integer.MIN_VALUE), -1);
        check.due("the highest", x.sum(Integer.MAX_VALUE), -1);
    }

    /** "n minutes (1 to 60) go by: which it is. BAD." */
    private static void passes() {
        for (int n = -70; n <= 130; n++) {
            AgesFerry x = Check.laid("p0,0,0,0;");
            boolean right = n >= 1 && n <= 60;
            check.due("pass " + n, x.pass(n), right ? n : -1);
            check.due("minute behind pass " + n, x.count(2), right ? n : 0);
            check.due("undone behind pass " + n, x.count(10), right ? 1 : 0);
            check.due("pass(60) more", x.pass(60), right ? n + 60 : 60);
        }
        check.due("the lowest", new AgesFerry().pass(Integer.MIN_VALUE), -1);
        check.due("the highest", new AgesFerry().pass(Integer.MAX_VALUE), -1);
    }

    /** Person 0 has not come yet, 1 is on the quay, 2 aboard, 3 across, 4 dead. */
    private static AgesFerry eachPlace() {
        AgesFerry x = Check.laid("f1,9,2;p0,1,9,0;p0,2,0,0;p0,4,0,0;p0,14,0,0;p0,16,0,0;");
        x.board(3);
        x.sail();
        x.die(4);
        x.board(2);
        return x;
    }

    /** "One on the QUAY BOARDS; one aboard STEPS OFF; one who is neither ACROSS nor DEAD DIES", of each place. */
    private static void places() {
        check.places("all five", eachPlace(), "01234");
        int[] boards = {-2, 6, -2, -2, -2};
        int[] stepsOff = {-2, -2, 0, -2, -2};
        int[] dies = {0, 1, 2, -2, -2};
        for (int p = 0; p < 5; p++) {
            String before = "01234";
            AgesFerry x = eachPlace();
            check.due("board, place " + p, x.board(p), boards[p]);
            check.places("board " + p, x, p == 1 ? "02234" : before);
            check.due("undone", x.count(10), p == 1 ? 5 : 4);
            AgesFerry y = eachPlace();
            check.due("stepOff, place " + p, y.stepOff(p), stepsOff[p]);
            check.places("stepOff " + p, y, p == 2 ? "01134" : before);
            check.due("undone", y.count(10), p == 2 ? 5 : 4);
            AgesFerry z = eachPlace();
            check.due("die, place " + p, z.die(p), dies[p]);
            check.places("die " + p, z, before.substring(0, p) + (p < 3 ? 4 : p) + before.substring(p + 1));
            check.due("undone", z.count(10), p < 3 ? 5 : 4);
        }
    }

    /** "BAD: a number is none that is told (PERSONS: such as there are)": before NO. */
    private static void wrongPersons() {
        for (int p : NOBODY) {
            AgesFerry x = Check.laid("f1,0,0;" + "p0,10,0,0;".repeat(9));
            check.due("board " + p, x.board(p), -1);
            check.due("stepOff " + p, x.stepOff(p), -1);
            check.due("die " + p, x.die(p), -1);
            check.due("nothing to be undone", x.undo(), -2);
        }
        for (int many = 1; many <= 8; many++) {
            AgesFerry x = Check.laid("p0,7,0,0;".repeat(many));
            check.due("board the one behind the last", x.board(many), -1);
            check.due("stepOff the one behind the last", x.stepOff(many), -1);
            check.due("die the one behind the last", x.die(many), -1);
            check.due("board the last", x.board(many - 1), 7);
            check.due("stepOff the last", x.stepOff(many - 1), 0);
            check.due("die the last", x.die(many - 1), 1);
        }
    }

    /** "DIES (and is not aboard any more)"; who has not come yet does not come. */
    private static void dies() {
        AgesFerry x = Check.laid("f1,0,0;p0,10,0,0;p0,4,0,0;p0,5,9,0;");
        Check.aboard(x, 3);
        check.due("aboard", x.die(1), 2);
        check.due("his years are gone", x.sum(0), 10);
        check.due("aboard", x.count(4), 1);
        check.due("sail without him", x.sail(), 0);
        check.due("not come yet", x.die(2), 0);
        check.due("across", x.die(0), -2);
        x.pass(60);
        check.places("60 minutes", x, "344");
        check.due("board who died before he came", x.board(2), -2);
        check.due("die again", x.die(2), -2);
        AgesFerry all = Check.laid("p0,1,0,0;".repeat(9));
        for (int p = 0; p < 9; p++) {
            check.due("die " + p, all.die(p), 1);
        }
        check.due("all dead", all.count(6), 9);
        check.due("all can be undone but one", all.count(10), 8);
    }

    /** "The FERRY SAILS, if all aboard are a SET that does: they are ACROSS then, but HIRED ones on the QUAY again." */
    private static void sails() {
        AgesFerry x = Check.laid("f3,9,1;p0,9,0,0;p1,9,0,0;p2,9,0,0;p3,9,0,0;p3,9,0,0;p2,9,0,0;p2,9,0,0;");
        Check.aboard(x, 31);
        check.due("7 over", x.sail(), 7);
        check.places("each kind", x, "3313311");
        check.row("trips", p -> x.person(p, 5), 1, 1, 1, 1, 1, 0, 0);
        check.row("count", x::count, 7, 30, 0, 3, 0, 4, 0, 1, 7, 0, 6);
        check.due("nobody aboard", x.sail(), -2);
        check.due("the hired one boards at once", x.board(2), 0);
        AgesFerry all = Check.laid("f9,0,0;" + "p0,10,0,0;".repeat(9));
        check.due("all nine", Check.aboard(all, 511).sail(), 0);
        check.due("all across", all.count(5), 9);
        check.due("none is left to sail", all.sail(), -2);
        AgesFerry hired = Check.laid("f9,0,0;" + "p2,10,0,0;".repeat(9));
        check.due("all nine hired", Check.aboard(hired, 511).sail(), 0);
        check.due("all on the quay", hired.count(3), 9);
        check.due("they count nothing now", Check.aboard(hired, 511).sum(0), 0);
    }

    /** "UNDONE is the latest of all these (all that go by at one time are one ..)" */
    private static void undoneOfEach() {
        AgesFerry x = Check.laid("f1,9,2;p2,19,0,0;p0,7,60,0;");
        check.due("nothing yet", x.undo(), -2);
        x.pass(60);
        check.due("60 minutes are one", x.count(10), 1);
        check.due("undo minutes", x.undo(), 0);
        check.due("all 60", x.count(2), 0);
        check.places("undone", x, "10");
        x.board(0);
        check.due("undo board", x.undo(), 0);
        check.places("undone", x, "10");
        x.board(0);
        x.stepOff(0);
        check.due("undo stepOff", x.undo(), 1);
        check.places("undone", x, "20");
        x.die(0);
        check.due("undo die", x.undo(), 1);
        check.places("undone", x, "20");
        check.due("aboard again", x.sum(0), 19);
        x.sail();
        check.due("undo sail", x.undo(), 1);
        check.places("undone", x, "20");
        check.due("sailings", x.count(7), 0);
        check.due("coins", x.count(8), 0);
        check.due("sailings made", x.person(0, 5), 0);
        check.due("undo the first", x.undo(), 0);
        check.due("nothing more", x.undo(), -2);
        check.places("undone", x, "10");
    }

    /** "(.. the last 8 can be)" */
    private static void undoneLast8() {
        for (int many = 0; many <= 20; many++) {
            AgesFerry x = Check.laid("p0,0,0,0;");
            for (int i = 1; i <= many; i++) {
                x.pass(i);
                check.due("can be undone", x.count(10), Math.min(i, 8));
            }
            int can = Math.min(many, 8);
            for (int i = 1; i <= can; i++) {
                check.due("undo " + i + " of " + many, x.undo(), can - i);
                check.due("minute", x.count(2), (many - i) * (many - i + 1) / 2);
            }
            check.due("no ninth of " + many, x.undo(), -2);
            check.due("minute", x.count(2), (many - can) * (many - can + 1) / 2);
            x.pass(60);
            check.due("one can be again", x.undo(), 0);
        }
    }

    /** What is no move can't be undone, and undoes nothing: a text, what is told, what is kept, a refusal. */
    private static void undoneIsNot() {
        AgesFerry x = Check.laid("f1,0,0;p0,10,0,0;");
        x.write('f');
        x.tell(1, 10);
        x.keep();
        x.wipe();
        x.forget();
        x.sail();
        x.stepOff(0);
        x.pass(61);
        x.board(1);
        check.due("nothing can be", x.count(10), 0);
        check.due("undo", x.undo(), -2);
        x.board(0);
        x.write('f');
        x.tell(1, 10);
        check.due("board undone", x.undo(), 0);
        check.due("THE TEXT stays", x.count(12), 1);
        check.due("what is told stays", x.count(9), 1);
        check.due("what is kept stays", x.count(11), 1);
    }
}
