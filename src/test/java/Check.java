/** Counts the answers that are not the due ones; ends the test with exit code 1 if there was one. */
final class Check {
    private final String name;
    private int asked;
    private int wrong;

    Check(String name) {
        this.name = name;
    }

    void due(String call, long got, long want) {
        asked++;
        if (got != want) {
            wrong++;
            System.out.println(name + ": " + call + " answered " + got + ", due is " + want);
        }
    }

    /** The answers to ask(0), ask(1), .. in one go. */
    void row(String call, java.util.function.IntUnaryOperator ask, int... wants) {
        for (int i = 0; i < wants.length; i++) {
            due(call + " of " + i, ask.applyAsInt(i), wants[i]);
        }
    }

    void end() {
        System.out.println(name + ": " + asked + " answers, " + wrong + " not as due");
        if (wrong != 0) {
            System.exit(1);
        }
    }

    static AgesFerry write(AgesFerry ferry, String text) {
        for (int i = 0; i < text.length(); i++) {
            ferry.write(text.charAt(i));
        }
        return ferry;
    }

    /** A new ferry with the text written and laid. */
    static AgesFerry laid(String text) {
        AgesFerry ferry = write(new AgesFerry(), text);
        if (ferry.lay() < 0) {
            throw new IllegalArgumentException("the test's own text can't be laid: " + text);
        }
        return ferry;
    }

    /** Where each person is, the first one's place in front. */
    static String places(AgesFerry ferry) {
        StringBuilder all = new StringBuilder();
        for (int p = 0; p < ferry.count(0); p++) {
            all.append(ferry.person(p, 4));
        }
        return all.toString();
    }

    void places(String call, AgesFerry ferry, String want) {
        asked++;
        String got = places(ferry);
        if (!got.equals(want)) {
            wrong++;
            System.out.println(name + ": places behind " + call + " are " + got + ", due is " + want);
        }
    }
}
