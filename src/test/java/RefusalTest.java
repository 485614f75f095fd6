import java.util.ArrayList;
import java.util.List;
import java.util.function.Supplier;
import java.util.function.ToIntFunction;

/**
 * "BAD: .. NO: .. NONE: .. FULL. Of several the first in this order, whatever the order at a call; nothing changes
 * then": each call that can be refused, refused, on a ferry of which a twin is not asked; then the two look alike,
 * and so do what can be undone, what is kept and what their texts say.
 */
public final class RefusalTest {
    private static final int BAD = -1, NO = -2, FULL = -3, NONE = -4;
    private static final int LOW = Integer.MIN_VALUE, HIGH = Integer.MAX_VALUE;

    private static final Check check = new Check("RefusalTest");

    /** A call and the answer that is due; ANY for a call that only asks. */
    private record Call(String name, int due, ToIntFunction<AgesFerry> ask) { }

    private static final int ANY = -99;

    public static void main(String[] args) {
        onEachQuay("each place", RefusalTest::eachPlace, onEachPlace());
        onEachQuay("full", RefusalTest::full, onFull());
        onEachQuay("new", AgesFerry::new, onNew());
        onEachQuay("nobody there", () -> Check.laid("f1,0,0;p0,10,9,0;"), onNobodyThere());
        onEachQuay("nobody left", RefusalTest::nobodyLeft, onNobodyLeft());
        onEachQuay("a fault", () -> Check.write(eachPlace(), "p0,0,0,0"), List.of(no("lay", AgesFerry::lay)));
        onEachQuay("a ferry alone", RefusalTest::ferryAlone, List.of(no("lay", AgesFerry::lay)));
        onEachQuay("asked only", RefusalTest::eachPlace, asks());
        onEachQuay("asked only, new", AgesFerry::new, asks());
        check.end();
    }

    private static void onEachQuay(String name, Supplier<AgesFerry> make, List<Call> calls) {
        String at = Look.at(make.get());
        String past = Look.past(make.get());
        String kept = Look.kept(make.get());
        String text = Look.text(make.get());
        for (Call call : calls) {
            String told = name + ": " + call.name();
            check.same("all behind " + told, Look.at(asked(make, call, told)), at);
            check.same("what can be undone behind " + told, Look.past(asked(make, call, told)), past);
            check.same("what is kept behind " + told, Look.kept(asked(make, call, told)), kept);
            check.same("the text behind " + told, Look.text(asked(make, call, told)), text);
        }
    }

    private static AgesFerry asked(Supplier<AgesFerry> make, Call call, String told) {
        AgesFerry x = make.get();
        int got = call.ask().applyAsInt(x);
        if (call.due() != ANY) {
            check.due(told, got, call.due());
        }
        return x;
    }

    private static Call bad(String name, ToIntFunction<AgesFerry> ask) {
        return new Call(name, BAD, ask);
    }

    private static Call no(String name, ToIntFunction<AgesFerry> ask) {
        return new Call(name, NO, ask);
    }

    /** Person 0 has not come yet, 1 is on the quay, 2 aboard, 3 across, 4 dead; some is told, undone, kept. */
    private static AgesFerry eachPlace() {
        AgesFerry x = Check.laid("f2,5,3;p0,19,60,0;p2,20,0,0;p0,9,1,0;p0,21,0,1;p3,9,0,1;");
        x.die(4);
        x.board(3);
        x.keep();
        x.sail();
        x.board(1);
        x.sail();
        x.pass(2);
        x.board(2);
        x.tell(3, 39);
        x.tell(28, 40);
        x.board(1);
        x.stepOff(1);
        x.undo();
        x.stepOff(1);
        return x;
    }

    private static List<Call> onEachPlace() {
        List<Call> all = wrongNumbers(5);
        int[] notOnQuay = {0, 2, 3, 4};
        for (int p : notOnQuay) {
            all.add(no("board " + p, x -> x.board(p)));
        }
        int[] notAboard = {0, 1, 3, 4};
        for (int p : notAboard) {
            all.add(no("stepOff " + p, x -> x.stepOff(p)));
        }
        all.add(no("die, across", x -> x.die(3)));
        all.add(no("die, dead", x -> x.die(4)));
        all.add(no("sail with too few years", AgesFerry::sail));
        int[] neither = {0, 3, 4};
        for (int p : neither) {
            all.add(no("setsFor " + p, x -> x.setsFor(p)));
        }
        all.add(new Call("age told otherwise, lowest", NONE, x -> x.age(0, 0)));
        all.add(new Call("age told otherwise, highest", NONE, x -> x.age(0, 1)));
        all.add(new Call("sum's coins", NONE, x -> x.sum(4)));
        all.add(new Call("best", NONE, x -> x.best(0)));
        return all;
    }

    /** Each call with each of its numbers just outside its bounds, and far outside. */
    private static List<Call> wrongNumbers(int persons) {
        List<Call> all = new ArrayList<>();
        int[] noLetters = {31, 127, -1, LOW, HIGH};
        for (int letter : noLetters) {
            all.add(bad("write " + letter, x -> x.write(letter)));
        }
        int[] nobody = {-1, persons, 32, 64, LOW, HIGH};
        for (int p : nobody) {
            all.add(bad("person " + p, x -> x.person(p, 0)));
            all.add(bad("board " + p, x -> x.board(p)));
            all.add(bad("stepOff " + p, x -> x.stepOff(p)));
            all.add(bad("die " + p, x -> x.die(p)));
            all.add(bad("setsFor " + p, x -> x.setsFor(p)));
            all.add(bad("age of " + p, x -> x.age(p, 0)));
        }
        wrongWhats(all);
        wrongBits(all, 1 << persons);
        int[][] noDays = {{-1, 1}, {10000, 1}, {LOW, 1}, {HIGH, 1}, {0, 0}, {0, 61}, {0, -1}, {0, LOW}, {0, HIGH}};
        for (int[] d : noDays) {
            all.add(bad("day " + d[0] + " of " + d[1], x -> x.day(d[0], d[1], 0)));
        }
        int[] noTenths = {-1, 11, LOW, HIGH};
        for (int tenths : noTenths) {
            all.add(bad("stays " + tenths, x -> x.stays(tenths, 0)));
        }
        int[] noMinutes = {0, 61, -1, LOW, HIGH};
        for (int n : noMinutes) {
            all.add(bad("pass " + n, x -> x.pass(n)));
        }
        return all;
    }

    private static void wrongWhats(List<Call> all) {
        int[] shifts = {-1, 0, LOW, HIGH};
        for (int shift : shifts) {
            all.add(bad("person's", x -> x.person(0, beyond(5, shift))));
            all.add(bad("sum", x -> x.sum(beyond(4, shift))));
            all.add(bad("best", x -> x.best(beyond(1, shift))));
            all.add(bad("sailings", x -> x.sailings(beyond(2, shift))));
            all.add(bad("age's", x -> x.age(0, beyond(1, shift))));
            all.add(bad("sums", x -> x.sums(beyond(1, shift))));
            all.add(bad("stays' part", x -> x.stays(5, beyond(1, shift))));
            all.add(bad("day's", x -> x.day(0, 1, beyond(1, shift))));
            all.add(bad("count", x -> x.count(beyond(12, shift))));
        }
    }

    /** The number one above the last one for 0, else the shift itself. */
    private static int beyond(int last, int shift) {
        return shift == 0 ? last + 1 : shift;
    }

    private static void wrongBits(List<Call> all, int tooMany) {
        int[] noBits = {0, -1, tooMany, tooMany + 1, LOW, HIGH};
        for (int bits : noBits) {
            all.add(bad("tell of " + bits, x -> x.tell(bits, 1)));
        }
        int[] noSums = {-1, 1000, LOW, HIGH};
        for (int s : noSums) {
            all.add(bad("tell that it is " + s, x -> x.tell(1, s)));
        }
    }

    /** A text of 200 letters, five times told, two kept, eight to be undone. */
    private static AgesFerry full() {
        AgesFerry x = Check.laid("f1,9,2;p0,10,0,0;p2,19,0,0;p0,5,0,0;");
        Check.write(x, "f9,9,9;".repeat(23) + "f9,");
        x.die(2);
        for (int i = 0; i < 5; i++) {
            x.tell(1 + i % 3, 10 + i);
        }
        x.board(1);
        x.keep();
        x.sail();
        x.keep();
        for (int i = 1; i <= 8; i++) {
            x.pass(i);
        }
        return x;
    }

    private static List<Call> onFull() {
        List<Call> all = wrongNumbers(3);
        all.add(new Call("write into a full text", FULL, x -> x.write(';')));
        all.add(new Call("write the first letter into a full text", FULL, x -> x.write(32)));
        all.add(new Call("write the last letter into a full text", FULL, x -> x.write(126)));
        all.add(new Call("tell a sixth", FULL, x -> x.tell(1, 10)));
        all.add(new Call("keep a third", FULL, AgesFerry::keep));
        all.add(no("lay a full text with a fault", AgesFerry::lay));
        all.add(no("sail, nobody aboard", AgesFerry::sail));
        all.add(no("stepOff, on the quay", x -> x.stepOff(0)));
        all.add(no("stepOff, hired, on the quay", x -> x.stepOff(1)));
        all.add(no("board, dead", x -> x.board(2)));
        all.add(no("stepOff, dead", x -> x.stepOff(2)));
        all.add(no("die, dead", x -> x.die(2)));
        all.add(no("setsFor, dead", x -> x.setsFor(2)));
        return all;
    }

    private static List<Call> onNew() {
        List<Call> all = wrongNumbers(9);
        all.add(no("undo", AgesFerry::undo));
        all.add(no("back", AgesFerry::back));
        all.add(no("lay", AgesFerry::lay));
        all.add(no("sail", AgesFerry::sail));
        all.add(new Call("fault", NONE, AgesFerry::fault));
        all.add(new Call("best set", NONE, x -> x.best(0)));
        all.add(new Call("best coins", NONE, x -> x.best(1)));
        all.add(new Call("wipe of nothing", 0, AgesFerry::wipe));
        all.add(new Call("forget of nothing", 0, AgesFerry::forget));
        return all;
    }

    private static List<Call> onNobodyThere() {
        List<Call> all = wrongNumbers(1);
        all.add(new Call("best", NONE, x -> x.best(0)));
        all.add(new Call("nearest sum", NONE, x -> x.sums(1)));
        all.add(no("board", x -> x.board(0)));
        all.add(no("stepOff", x -> x.stepOff(0)));
        all.add(no("setsFor", x -> x.setsFor(0)));
        return all;
    }

    private static AgesFerry nobodyLeft() {
        AgesFerry x = Check.laid("f1,0,0;p0,10,0,0;p0,11,1,0;");
        x.board(0);
        x.sail();
        x.die(1);
        return x;
    }

    private static List<Call> onNobodyLeft() {
        List<Call> all = wrongNumbers(2);
        all.add(new Call("waits", NONE, AgesFerry::waits));
        all.add(new Call("best", NONE, x -> x.best(0)));
        all.add(new Call("nearest sum", NONE, x -> x.sums(1)));
        all.add(no("sail", AgesFerry::sail));
        return all;
    }

    private static AgesFerry ferryAlone() {
        AgesFerry x = eachPlace();
        x.wipe();
        return Check.write(x, "f3,4,5;f1,1,1;");
    }

    /** Calls that only ask change nothing, whatever they answer. */
    private static List<Call> asks() {
        List<Call> all = new ArrayList<>();
        all.add(new Call("fault", ANY, AgesFerry::fault));
        all.add(new Call("person", ANY, x -> x.person(2, 4)));
        all.add(new Call("sum", ANY, x -> x.sum(4)));
        all.add(new Call("best", ANY, x -> x.best(0) + x.best(1)));
        all.add(new Call("waits", ANY, AgesFerry::waits));
        all.add(new Call("sailings", ANY, x -> x.sailings(0) + x.sailings(1) + x.sailings(2)));
        all.add(new Call("setsFor", ANY, x -> x.setsFor(1)));
        all.add(new Call("oddOnes", ANY, AgesFerry::oddOnes));
        all.add(new Call("liar", ANY, AgesFerry::liar));
        all.add(new Call("age", ANY, x -> x.age(1, 0) + x.age(1, 1)));
        all.add(new Call("sums", ANY, x -> x.sums(0) + x.sums(1)));
        all.add(new Call("stays", ANY, x -> x.stays(5, 0) + x.stays(5, 1)));
        all.add(new Call("day", ANY, x -> x.day(9999, 60, 0) + x.day(0, 60, 1)));
        all.add(new Call("count", ANY, x -> x.count(0)));
        return all;
    }
}
