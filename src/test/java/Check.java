/** Counts the answers that are not the due ones; ends the test with exit code 1 if there was one. */
final class Check {
    private final String name;
    private int asked;
    private int wrong;

    Check(String name) {
        this.name = name;
    }

    void due(String call, long got, long want) {
        asked++;
        if (got != want) {
            wrong++;
            System.out.println(name + ": " + call + " answered " + got + ", due is " + want);
        }
    }

    void same(String what, String got, String want) {
        asked++;
        if (!got.equals(want)) {
            wrong++;
            System.out.println(name + ": " + what + " is " + got + ", due is " + want);
        }
    }

    /** The answers to ask(0), ask(1), .. in one go. */
    void row(String call, java.util.function.IntUnaryOperator ask, int... wants) {
        for (int i = 0; i < wants.length; i++) {
            due(call + " of " + i, ask.applyAsInt(i), wants[i]);
        }
    }

    void end() {
        System.out.println(name + ": " + asked + " answers, " + wrong + " not as due");
        if (wrong != 0) {
            System.exit(1);
        }
    }

    static AgesFerry write(AgesFerry ferry, String text) {
        for (int i = 0; i < text.length(); i++) {
            ferry.write(text.charAt(i));
        }
        return ferry;
    }

    /** A new ferry with the text written and laid. */
    static AgesFerry laid(String text) {
        AgesFerry ferry = write(new AgesFerry(), text);
        if (ferry.lay() < 0) {
            throw new IllegalArgumentException("the test's own text can't be laid: " + text);
        }
        return ferry;
    }

    /** Lets minutes go by, some at a time, until it is that one. */
    static AgesFerry until(AgesFerry ferry, int minute) {
        for (int i = 0; i < 600 && ferry.count(2) < minute; i++) {
            ferry.pass(Math.min(60, minute - ferry.count(2)));
        }
        return ferry;
    }

    /** Those of the set board, and nobody else is aboard. */
    static AgesFerry aboard(AgesFerry ferry, int set) {
        for (int p = 0; p < 9; p++) {
            if ((set >> p & 1) == 1) {
                ferry.board(p);
            } else {
                ferry.stepOff(p);
            }
        }
        return ferry;
    }

    /** Where each person is, the first one's place in front. */
    static String places(AgesFerry ferry) {
        StringBuilder all = new StringBuilder();
        for (int p = 0; p < ferry.count(0); p++) {
            all.append(ferry.person(p, 4));
        }
        return all.toString();
    }

    void places(String call, AgesFerry ferry, String want) {
        same("places behind " + call, places(ferry), want);
    }
}
