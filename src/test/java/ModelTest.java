import java.util.Random;

/** Long runs of calls, the same ones each time, answered by the class and by the model. */
public final class ModelTest {
    private static final int RUNS = 360, CALLS = 512;
    /** No more calls are made by a new text, and by anything else at one time. */
    private static final int TEXT_CALLS = 260, OTHER_CALLS = 10;
    private static final int[] FAR = {-1, -2, 9, 10, 61, 512, 1000, 10000, Integer.MIN_VALUE, Integer.MAX_VALUE};

    private static final Check check = new Check("ModelTest");
    private static final Random random = new Random(1000);
    private static AgesFerry x;
    private static Model m;
    private static String run;
    private static int calls;
    private static int sailings;

    public static void main(String[] args) {
        for (int r = 0; r < RUNS; r++) {
            x = new AgesFerry();
            m = new Model();
            run = "run " + r + ": ";
            calls = 0;
            // One run in eight goes on from the first quay.
            if (r % 8 != 0) {
                newText();
            }
            int kind = r % 3;
            while (calls + OTHER_CALLS <= CALLS) {
                if (calls + TEXT_CALLS <= CALLS && random.nextInt(kind == 0 ? 60 : 150) == 0) {
                    newText();
                } else {
                    oneCall();
                }
            }
            check.due(run + "more than 512 calls", calls <= CALLS ? 0 : calls, 0);
        }
        check.due("the runs sail often: " + sailings, sailings > RUNS ? 1 : 0, 1);
        check.end();
    }

    private static void due(String call, int got, int want) {
        calls++;
        check.due(run + call, got, want);
    }

    private static void newText() {
        due("wipe()", x.wipe(), m.wipe());
        String text = text();
        for (int i = 0; i < text.length(); i++) {
            due("write(" + text.charAt(i) + ")", x.write(text.charAt(i)), m.write(text.charAt(i)));
        }
        due("fault() of " + text, x.fault(), m.fault());
        due("lay() of " + text, x.lay(), m.lay());
    }

    private static String text() {
        StringBuilder text = new StringBuilder();
        int persons = 1 + random.nextInt(10);
        int oldest = random.nextBoolean() ? 99 : 5 + random.nextInt(40);
        int latest = random.nextInt(3) == 0 ? 99 : 8;
        int parties = random.nextInt(6);
        for (int p = 0; p < persons; p++) {
            if (random.nextInt(8) == 0 || p == 0 && random.nextInt(10) != 0) {
                int tens = random.nextInt(12) == 0 ? random.nextInt(100) : 1 + random.nextInt(8);
                text.append('f').append(tens).append(',').append(random.nextInt(random.nextBoolean() ? 100 : 12));
                text.append(',').append(random.nextInt(10)).append(';');
            }
            int party = random.nextInt(3) == 0 ? random.nextInt(parties + 1) : 0;
            text.append('p').append(random.nextInt(4)).append(',').append(random.nextInt(oldest + 1)).append(',');
            text.append(random.nextInt(3) == 0 ? random.nextInt(latest + 1) : 0).append(',').append(party).append(';');
        }
        if (random.nextInt(6) == 0) {
            spoil(text);
        }
        return text.toString();
    }

    private static void spoil(StringBuilder text) {
        String letters = "fp,;0123456789 x";
        int at = random.nextInt(text.length());
        char letter = letters.charAt(random.nextInt(letters.length()));
        switch (random.nextInt(3)) {
            case 0 -> text.setCharAt(at, letter);
            case 1 -> text.insert(at, letter);
            default -> text.deleteCharAt(at);
        }
    }

    private static int any(int many) {
        return random.nextInt(25) == 0 ? FAR[random.nextInt(FAR.length)] : random.nextInt(many);
    }

    private static int someone() {
        return any(Math.max(1, m.count(0)));
    }

    private static void oneCall() {
        int p = someone();
        int what = any(3);
        switch (random.nextInt(33)) {
            case 0 -> pass(random.nextInt(3) == 0 ? any(61) : 1 + random.nextInt(3));
            case 1, 2, 3, 4 -> due("board(" + p + ")", x.board(p), m.board(p));
            case 5, 6 -> due("stepOff(" + p + ")", x.stepOff(p), m.stepOff(p));
            case 7 -> {
                if (random.nextInt(3) == 0) due("die(" + p + ")", x.die(p), m.die(p));
            }
            case 8 -> sail();
            case 9, 30, 31, 32 -> boardBest();
            case 10 -> due("undo()", x.undo(), m.undo());
            case 11 -> due("best(" + what + ")", x.best(what), m.best(what));
            case 12 -> {
                if (random.nextInt(4) == 0) due("waits()", x.waits(), m.waits());
            }
            case 13 -> due("sailings(" + what + ")", x.sailings(what), m.sailings(what));
            case 14 -> due("setsFor(" + p + ")", x.setsFor(p), m.setsFor(p));
            case 15 -> due("oddOnes()", x.oddOnes(), m.oddOnes());
            case 16, 17 -> tell();
            case 18 -> {
                if (random.nextInt(4) == 0) due("forget()", x.forget(), m.forget());
            }
            case 19 -> due("liar()", x.liar(), m.liar());
            case 20 -> due("age(" + p + ", " + what + ")", x.age(p, what), m.age(p, what));
            case 21 -> due("sums(" + what + ")", x.sums(what), m.sums(what));
            case 22 -> stays(any(11), what);
            case 23 -> day(any(10000), random.nextBoolean() ? 60 : any(61), what);
            case 24 -> keepOrBack();
            case 25 -> due("fault()", x.fault(), m.fault());
            case 26 -> due("sum(" + what + ")", x.sum(what), m.sum(what));
            case 27 -> due("sum(4)", x.sum(4), m.sum(4));
            case 28 -> count(any(13));
            default -> person(p, any(6));
        }
    }

    private static void pass(int n) {
        due("pass(" + n + ")", x.pass(n), m.pass(n));
    }

    /** Chance alone seldom brings a set together that sails. */
    private static void boardBest() {
        int set = m.best(0);
        for (int p = 0; p < 9 && set > 0; p++) {
            if ((set >> p & 1) == 1) {
                due("board(" + p + ")", x.board(p), m.board(p));
            } else {
                due("stepOff(" + p + ")", x.stepOff(p), m.stepOff(p));
            }
        }
        if (set > 0 && random.nextInt(3) != 0) {
            sail();
        }
    }

    private static void sail() {
        int coins = x.sail();
        due("sail()", coins, m.sail());
        sailings += coins >= 0 ? 1 : 0;
    }

    private static void tell() {
        int bits = any(1 << Math.max(1, m.count(0)));
        int s = random.nextInt(12) == 0 ? any(1000) : 0;
        for (int p = 0; p < m.count(0); p++) {
            s += (bits >> p & 1) == 1 ? m.person(p, 1) : 0;
        }
        s += random.nextInt(3) == 0 ? random.nextInt(9) - 4 : 0;
        due("tell(" + bits + ", " + s + ")", x.tell(bits, s), m.tell(bits, s));
    }

    private static void stays(int tenths, int part) {
        due("stays(" + tenths + ", " + part + ")", x.stays(tenths, part), m.stays(tenths, part));
    }

    private static void day(int z, int n, int what) {
        due("day(" + z + ", " + n + ", " + what + ")", x.day(z, n, what), m.day(z, n, what));
    }

    private static void keepOrBack() {
        if (random.nextInt(3) != 0) {
            due("keep()", x.keep(), m.keep());
        } else {
            due("back()", x.back(), m.back());
        }
    }

    private static void count(int what) {
        due("count(" + what + ")", x.count(what), m.count(what));
    }

    private static void person(int p, int what) {
        due("person(" + p + ", " + what + ")", x.person(p, what), m.person(p, what));
    }
}
