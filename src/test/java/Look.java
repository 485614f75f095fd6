/** What the face lets be seen of a ferry, as one text, to hold two ferries against each other. */
final class Look {
    private static final int MOST = 9;

    private Look() {
    }

    /** All that can be asked; nothing may change by it. */
    static String at(AgesFerry x) {
        StringBuilder all = new StringBuilder(counts(x)).append(persons(x));
        for (int what = 0; what <= 4; what++) {
            all.append(" sum ").append(x.sum(what));
        }
        all.append(" best ").append(x.best(0)).append(' ').append(x.best(1)).append(" waits ").append(x.waits());
        all.append(" sailings ").append(x.sailings(0)).append(' ').append(x.sailings(1)).append(' ');
        all.append(x.sailings(2)).append(" odd ").append(x.oddOnes()).append(" liar ").append(x.liar());
        all.append(" sums ").append(x.sums(0)).append(' ').append(x.sums(1));
        all.append(" stays ").append(x.stays(7, 0)).append(' ').append(x.stays(7, 1));
        all.append(" day ").append(x.day(77, 60, 0)).append(' ').append(x.day(77, 60, 1));
        return all.append(" fault ").append(x.fault()).toString();
    }

    /** What can be undone, the latest first; all of it is undone then. */
    static String past(AgesFerry x) {
        StringBuilder all = new StringBuilder();
        for (int i = 0; i <= MOST; i++) {
            all.append(" undo ").append(x.undo()).append(' ').append(stand(x));
        }
        return all.toString();
    }

    /** What is kept, the latest first; all of it is gone back to then. */
    static String kept(AgesFerry x) {
        StringBuilder all = new StringBuilder();
        for (int i = 0; i <= 2; i++) {
            all.append(" back ").append(x.back()).append(' ').append(Look.at(x));
        }
        return all.toString();
    }

    /** What the text says, how many more letters it takes, and what stands when it is laid; it is, then. */
    static String text(AgesFerry x) {
        StringBuilder all = new StringBuilder("fault ").append(x.fault()).append(" lay ").append(x.lay());
        return all.append(' ').append(Look.at(x)).append(" write ").append(x.write('p')).toString();
    }

    private static String stand(AgesFerry x) {
        StringBuilder all = new StringBuilder(counts(x));
        for (int p = 0, many = x.count(0); p < many; p++) {
            all.append(' ').append(x.person(p, 4)).append('/').append(x.person(p, 5));
        }
        return all.toString();
    }

    private static String counts(AgesFerry x) {
        StringBuilder all = new StringBuilder("count");
        for (int what = 0; what <= 12; what++) {
            all.append(' ').append(x.count(what));
        }
        return all.toString();
    }

    private static String persons(AgesFerry x) {
        StringBuilder all = new StringBuilder();
        for (int p = 0, many = x.count(0); p < many; p++) {
            all.append(" person");
            for (int what = 0; what <= 5; what++) {
                all.append(' ').append(x.person(p, what));
            }
            all.append(" for ").append(x.setsFor(p)).append(" age ").append(x.age(p, 0)).append(' ').append(x.age(p, 1));
        }
        return all.toString();
    }
}
