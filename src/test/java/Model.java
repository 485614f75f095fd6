import java.math.BigInteger;
import java.util.ArrayDeque;
import java.util.ArrayList;
import java.util.Deque;
import java.util.List;
import java.util.TreeSet;
import java.util.regex.Matcher;
import java.util.regex.Pattern;

/** The document told once more, slowly and with other means, to hold against the class. */
final class Model {
    static final int BAD = -1, NO = -2, FULL = -3, NONE = -4;
    private static final Pattern FERRY = Pattern.compile("f(\\d\\d?),(\\d\\d?),(\\d\\d?);");
    private static final Pattern PERSON = Pattern.compile("p(\\d\\d?),(\\d\\d?),(\\d\\d?),(\\d\\d?);");

    private static final class Man implements Cloneable {
        int kind, age, comes, party, trips;
        boolean aboard, across, dead;

        Man copy() {
            try {
                return (Man) clone();
            } catch (CloneNotSupportedException e) {
                throw new IllegalStateException(e);
            }
        }
    }

    private static final class World {
        int minute, sailed, spent;
        List<Man> men = new ArrayList<>();

        World copy() {
            World w = new World();
            w.minute = minute;
            w.sailed = sailed;
            w.spent = spent;
            for (Man m : men) {
                w.men.add(m.copy());
            }
            return w;
        }
    }

    private record Told(int bits, int s) { }

    private String text = "";
    private int wants, bears, price;
    private World w = new World();
    private final Deque<World> past = new ArrayDeque<>();
    private final Deque<World> kept = new ArrayDeque<>();
    private final List<Told> told = new ArrayList<>();

    Model() {
        text = "f12,9,1;p0,70,0,0;p0,45,0,1;p1,0,0,1;p0,38,2,1;p2,90,3,0;p3,24,5,2;p3,31,5,2;p0,52,8,0;p0,12,1,0;";
        lay();
        text = "";
    }

    int write(int letter) {
        if (letter < 32 || letter > 126) return BAD;
        if (text.length() == 200) return FULL;
        text += (char) letter;
        return text.length();
    }

    int wipe() {
        int was = text.length();
        text = "";
        return was;
    }

    int fault() {
        int at = 0;
        int persons = 0;
        while (at < text.length()) {
            Matcher f = FERRY.matcher(text).region(at, text.length());
            Matcher p = PERSON.matcher(text).region(at, text.length());
            if (f.lookingAt()) {
                if (number(f, 1) == 0 || number(f, 3) > 9) return at;
                at = f.end();
            } else if (p.lookingAt()) {
                persons++;
                if (number(p, 1) > 3 || number(p, 4) > 5 || persons > 9) return at;
                at = p.end();
            } else {
                return at;
            }
        }
        return NONE;
    }

    private static int number(Matcher m, int group) {
        return Integer.parseInt(m.group(group));
    }

    int lay() {
        if (fault() != NONE || !text.contains("p")) return NO;
        wants = 100;
        bears = 9;
        price = 1;
        w = new World();
        past.clear();
        kept.clear();
        told.clear();
        for (String item : text.split(";")) {
            String[] n = item.substring(1).split(",");
            if (item.charAt(0) == 'f') {
                wants = 10 * Integer.parseInt(n[0]);
                bears = Integer.parseInt(n[1]);
                price = Integer.parseInt(n[2]);
            } else {
                Man m = new Man();
                m.kind = Integer.parseInt(n[0]);
                m.age = Integer.parseInt(n[1]);
                m.comes = Integer.parseInt(n[2]);
                m.party = Integer.parseInt(n[3]);
                w.men.add(m);
            }
        }
        return w.men.size();
    }

    private boolean none(int p) {
        return p < 0 || p >= w.men.size();
    }

    private int where(Man m) {
        return m.dead ? 4 : m.across ? 3 : m.aboard ? 2 : m.comes <= w.minute ? 1 : 0;
    }

    int person(int p, int what) {
        if (none(p) || what < 0 || what > 5) return BAD;
        Man m = w.men.get(p);
        return new int[] {m.kind, m.age, m.comes, m.party, where(m), m.trips}[what];
    }

    private int total(List<Man> set) {
        long soldiers = set.stream().filter(m -> m.kind == 3).count();
        int all = 0;
        for (Man m : set) {
            int[] counts = {m.age, 1, Math.max(0, m.age - 10 * m.trips), soldiers > 1 ? m.age : 0};
            all += counts[m.kind];
        }
        return all;
    }

    private boolean sails(List<Man> set) {
        int all = total(set);
        if (all < wants || all > wants + bears) return false;
        for (Man one : set) {
            for (Man other : w.men) {
                boolean same = one.party != 0 && one.party == other.party;
                if (same && !other.across && !other.dead && !set.contains(other)) return false;
            }
        }
        return true;
    }

    private int coins(List<Man> set) {
        return (total(set) - wants) * price;
    }

    private List<Man> those(int... places) {
        List<Man> all = new ArrayList<>();
        for (Man m : w.men) {
            for (int place : places) {
                if (where(m) == place) all.add(m);
            }
        }
        return all;
    }

    private List<List<Man>> sets(List<Man> of) {
        List<List<Man>> all = new ArrayList<>();
        all.add(new ArrayList<>());
        for (Man m : of) {
            for (int i = 0, many = all.size(); i < many; i++) {
                List<Man> more = new ArrayList<>(all.get(i));
                more.add(m);
                all.add(more);
            }
        }
        return all;
    }

    private List<List<Man>> sailing(List<Man> of) {
        List<List<Man>> all = sets(of);
        all.removeIf(set -> !sails(set));
        return all;
    }

    private int bits(List<Man> set) {
        int bits = 0;
        for (Man m : set) bits += 1 << w.men.indexOf(m);
        return bits;
    }

    int sum(int what) {
        if (what < 0 || what > 4) return BAD;
        List<Man> set = those(2);
        int all = total(set);
        return switch (what) {
            case 0 -> all;
            case 1 -> all < wants ? wants - all : 0;
            case 2 -> all > wants ? all - wants : 0;
            case 3 -> sails(set) ? 1 : 0;
            default -> sails(set) ? coins(set) : NONE;
        };
    }

    private void remember() {
        past.push(w.copy());
        if (past.size() > 8) past.removeLast();
    }

    int pass(int n) {
        if (n < 1 || n > 60) return BAD;
        remember();
        return w.minute += n;
    }

    int board(int p) {
        if (none(p)) return BAD;
        if (where(w.men.get(p)) != 1) return NO;
        remember();
        w.men.get(p).aboard = true;
        return sum(0);
    }

    int stepOff(int p) {
        if (none(p)) return BAD;
        if (where(w.men.get(p)) != 2) return NO;
        remember();
        w.men.get(p).aboard = false;
        return sum(0);
    }

    int die(int p) {
        if (none(p)) return BAD;
        int was = where(w.men.get(p));
        if (was > 2) return NO;
        remember();
        w.men.get(p).dead = true;
        w.men.get(p).aboard = false;
        return was;
    }

    int sail() {
        if (!sails(those(2))) return NO;
        remember();
        return go();
    }

    private int go() {
        List<Man> set = those(2);
        int coins = coins(set);
        for (Man m : set) {
            m.trips++;
            m.aboard = false;
            m.across = m.kind != 2;
        }
        w.sailed++;
        w.spent += coins;
        return coins;
    }

    int undo() {
        if (past.isEmpty()) return NO;
        w = past.pop();
        return past.size();
    }

    int best(int what) {
        if (what < 0 || what > 1) return BAD;
        List<Man> best = null;
        for (List<Man> set : sailing(those(1, 2))) {
            long key = coins(set) * 1000000L + set.size() * 1000L + bits(set);
            if (best == null || key < coins(best) * 1000000L + best.size() * 1000L + bits(best)) best = set;
        }
        return best == null ? NONE : what == 0 ? bits(best) : coins(best);
    }

    int waits() {
        int now = w.minute;
        int found = NONE;
        for (int n = 0; n <= 99 && found == NONE; n++) {
            w.minute = now + n;
            if (!sailing(those(1, 2)).isEmpty()) found = n;
        }
        w.minute = now;
        return found;
    }

    /** The best of all ways to take sets from the list on: number, coins, left, less being better. */
    private long[] packing(List<int[]> sets, int from, int free, int many, int coins) {
        long[] best = {-many, coins, free};
        for (int i = from; i < sets.size(); i++) {
            int[] set = sets.get(i);
            if ((set[0] & ~free) != 0) continue;
            long[] way = packing(sets, i + 1, free & ~set[0], many + 1, coins + set[1]);
            if (java.util.Arrays.compare(way, best) < 0) best = way;
        }
        return best;
    }

    int sailings(int what) {
        if (what < 0 || what > 2) return BAD;
        List<int[]> sets = new ArrayList<>();
        for (List<Man> set : sailing(those(0, 1, 2))) sets.add(new int[] {bits(set), coins(set)});
        long[] best = packing(sets, 0, bits(those(0, 1, 2)), 0, 0);
        return (int) (what == 0 ? -best[0] : best[what]);
    }

    int setsFor(int p) {
        if (none(p)) return BAD;
        Man m = w.men.get(p);
        if (where(m) != 1 && where(m) != 2) return NO;
        return (int) sailing(those(1, 2)).stream().filter(set -> set.contains(m)).count();
    }

    int oddOnes() {
        List<Man> odd = those(1, 2);
        for (List<Man> set : sailing(those(1, 2))) odd.removeAll(set);
        return bits(odd);
    }

    int tell(int bits, int s) {
        if (bits < 1 || bits >= 1 << w.men.size() || s < 0 || s > 999) return BAD;
        if (told.size() == 5) return FULL;
        told.add(new Told(bits, s));
        return told.size();
    }

    int forget() {
        int were = told.size();
        told.clear();
        return were;
    }

    private boolean allSo() {
        for (Told t : told) {
            int all = 0;
            for (int p = 0; p < w.men.size(); p++) {
                if ((t.bits() & 1 << p) != 0) all += w.men.get(p).age;
            }
            if (all != t.s()) return false;
        }
        return true;
    }

    private List<Integer> possible(int p) {
        Man m = w.men.get(p);
        int own = m.age;
        List<Integer> ages = new ArrayList<>();
        for (m.age = 0; m.age <= 99; m.age++) {
            if (allSo()) ages.add(m.age);
        }
        m.age = own;
        return ages;
    }

    int liar() {
        int bits = allSo() ? 512 : 0;
        for (int p = 0; p < w.men.size(); p++) {
            List<Integer> ages = possible(p);
            ages.remove(Integer.valueOf(w.men.get(p).age));
            if (!ages.isEmpty()) bits += 1 << p;
        }
        return bits;
    }

    int age(int p, int what) {
        if (none(p) || what < 0 || what > 1) return BAD;
        List<Integer> ages = possible(p);
        return ages.isEmpty() ? NONE : ages.get(what == 0 ? 0 : ages.size() - 1);
    }

    int sums(int what) {
        if (what < 0 || what > 1) return BAD;
        TreeSet<Integer> all = new TreeSet<>();
        for (List<Man> set : sets(those(1, 2))) {
            if (!set.isEmpty()) all.add(total(set));
        }
        if (what == 0) return all.size();
        Integer below = all.floor(wants);
        Integer above = all.higher(wants);
        if (below == null && above == null) return NONE;
        if (below == null) return above;
        return above == null || wants - below <= above - wants ? below : above;
    }

    int stays(int x, int part) {
        if (x < 0 || x > 10 || part < 0 || part > 1) return BAD;
        List<Man> all = those(1, 2);
        List<List<Man>> good = sailing(all);
        BigInteger above = BigInteger.ZERO;
        for (List<Man> set : sets(all)) {
            if (good.stream().noneMatch(set::containsAll)) continue;
            above = above.add(BigInteger.valueOf(x).pow(set.size())
                    .multiply(BigInteger.valueOf(10 - x).pow(all.size() - set.size())));
        }
        BigInteger below = BigInteger.TEN.pow(all.size());
        return (part == 0 ? above : below).divide(above.gcd(below)).intValueExact();
    }

    int day(int z, int n, int what) {
        if (z < 0 || z > 9999 || n < 1 || n > 60 || what < 0 || what > 1) return BAD;
        World now = w;
        w = now.copy();
        for (long k = 0; k < n; k++) {
            long x = 7919L * z + 6151L * k + 1;
            long draw = x * x % 65521;
            Man m = w.men.get((int) (draw % w.men.size()));
            if (where(m) == 1) {
                m.aboard = true;
            } else if (where(m) == 2 && draw / 16 % 2 == 0) {
                m.aboard = false;
            }
            if (sails(those(2))) go();
            w.minute++;
        }
        int answer = what == 0 ? w.sailed - now.sailed : w.spent - now.spent;
        w = now;
        return answer;
    }

    int keep() {
        if (kept.size() == 2) return FULL;
        kept.push(w.copy());
        return kept.size();
    }

    int back() {
        if (kept.isEmpty()) return NO;
        w = kept.pop();
        past.clear();
        return kept.size();
    }

    int count(int what) {
        return switch (what) {
            case 0 -> w.men.size();
            case 1 -> wants;
            case 2 -> w.minute;
            case 3 -> those(1).size();
            case 4 -> those(2).size();
            case 5 -> those(3).size();
            case 6 -> those(4).size();
            case 7 -> w.sailed;
            case 8 -> w.spent;
            case 9 -> told.size();
            case 10 -> past.size();
            case 11 -> kept.size();
            case 12 -> text.length();
            default -> BAD;
        };
    }
}
