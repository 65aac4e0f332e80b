import java.util.ArrayList;
import java.util.Arrays;
import java.util.List;
import java.util.TreeSet;
import java.util.regex.Matcher;
import java.util.regex.Pattern;

/**
 * The document written a second time, as slowly and as near to its words as it goes, for ModelTest.
 * It shares no code with the class: facts are sets, trades lists, ways are tried one by one.
 */
final class Model {
    private static final int BAD = -1, NO = -2, FULL = -3, NONE = -4;
    private static final String NUMBER = "([0-9]{1,3})";
    private static final Pattern ITEM = Pattern.compile(
            "(?:p" + NUMBER + "," + NUMBER + "|j([0-5]{1,8})|c" + NUMBER + "|n" + NUMBER
            + "|k" + NUMBER + "," + NUMBER + "," + NUMBER
            + "|m" + NUMBER + "," + NUMBER + "," + NUMBER + "," + NUMBER
            + "|u" + NUMBER + "," + NUMBER + "," + NUMBER + ");");

    private static final class Half {
        private int skills;
        private TreeSet<Integer> facts = new TreeSet<>();
    }

    private static final class People {
        private final List<Half[]> persons = new ArrayList<>();
        private final List<String> trades = new ArrayList<>();
        private final List<int[]> married = new ArrayList<>();
        private int mostSteps = 3;
        private int mostTold = 2;
        private int[] purse = {9, 1, 1};
    }

    /** What KEPT means: the SHIFT, what halves know, NOTES. */
    private static final class Moment {
        private int shift;
        private final List<List<TreeSet<Integer>>> facts = new ArrayList<>();
        private final List<TreeSet<Integer>> notes = new ArrayList<>();

        Moment copy() {
            Moment other = new Moment();
            other.shift = shift;
            for (List<TreeSet<Integer>> both : facts) {
                other.facts.add(List.of(new TreeSet<>(both.get(0)), new TreeSet<>(both.get(1))));
            }
            for (TreeSet<Integer> hung : notes) {
                other.notes.add(new TreeSet<>(hung));
            }
            return other;
        }
    }

    private String text = "";
    private People people;
    private Moment now;
    private final List<Moment> kept = new ArrayList<>();
    private final List<int[]> deeds = new ArrayList<>();

    Model() {
        people = new People();
        parse("p1,2;j01;", people);
        now = first();
    }

    private Moment first() {
        Moment moment = new Moment();
        for (Half[] person : people.persons) {
            moment.facts.add(List.of(new TreeSet<>(person[0].facts), new TreeSet<>(person[1].facts)));
            moment.notes.add(new TreeSet<>());
        }
        return moment;
    }

    private static int parse(String text, People into) {
        int at = 0;
        Matcher matcher = ITEM.matcher(text);
        while (at < text.length()) {
            matcher.region(at, text.length());
            if (!matcher.lookingAt() || !take(matcher.group(), into)) {
                return at;
            }
            at = matcher.end();
        }
        return NONE;
    }

    private static boolean in(int value, int low, int high) {
        return value >= low && value <= high;
    }

    private static boolean take(String item, People into) {
        String inner = item.substring(1, item.length() - 1);
        if (item.charAt(0) == 'j') {
            into.trades.add(inner);
            return into.trades.size() <= 4;
        }
        int[] v = Arrays.stream(inner.split(",")).mapToInt(Integer::parseInt).toArray();
        int people = into.persons.size();
        switch (item.charAt(0)) {
            case 'p': {
                Half left = new Half();
                Half right = new Half();
                left.skills = v[0];
                right.skills = v[1];
                into.persons.add(new Half[] {left, right});
                return in(v[0], 0, 63) && in(v[1], 0, 63) && people < 5;
            }
            case 'c':
                into.mostSteps = v[0];
                return in(v[0], 1, 8);
            case 'n':
                into.mostTold = v[0];
                return in(v[0], 0, 8);
            case 'k':
                if (v[0] >= people || v[1] > 1 || v[2] > 255) {
                    return false;
                }
                into.persons.get(v[0])[v[1]].facts = set(v[2]);
                return true;
            case 'm':
                into.married.add(v);
                return v[0] < people && v[2] < people && v[0] != v[2] && v[1] < 2 && v[3] < 2 && into.married.size() <= 8;
            default:
                into.purse = v;
                return v[0] <= 20 && in(v[1], 1, 9) && in(v[2], 1, 9);
        }
    }

    private static TreeSet<Integer> set(int bits) {
        TreeSet<Integer> facts = new TreeSet<>();
        for (int f = 0; f < 8; f++) {
            if ((bits & 1 << f) != 0) {
                facts.add(f);
            }
        }
        return facts;
    }

    private static int bits(TreeSet<Integer> facts) {
        int sum = 0;
        for (int f : facts) {
            sum += 1 << f;
        }
        return sum;
    }

    private static TreeSet<Integer> told(TreeSet<Integer> teller, TreeSet<Integer> hearer, int most) {
        TreeSet<Integer> out = new TreeSet<>();
        for (int f : teller) {
            if (!hearer.contains(f) && out.size() < most) {
                out.add(f);
            }
        }
        return out;
    }

    private void end(Moment moment) {
        for (int i = 0; i < people.persons.size(); i++) {
            TreeSet<Integer> left = moment.facts.get(i).get(0);
            TreeSet<Integer> right = moment.facts.get(i).get(1);
            TreeSet<Integer> toRight = told(left, right, people.mostTold);
            TreeSet<Integer> toLeft = told(right, left, people.mostTold);
            left.addAll(toLeft);
            right.addAll(toRight);
            (moment.shift % 2 == 0 ? right : left).addAll(moment.notes.get(i));
            moment.notes.get(i).clear();
        }
        moment.shift++;
    }

    private Moment after(Moment from, int n) {
        Moment moment = from.copy();
        for (int k = 0; k < n; k++) {
            end(moment);
        }
        return moment;
    }

    private static TreeSet<Integer> awake(Moment moment, int i) {
        return moment.facts.get(i).get(moment.shift % 2);
    }

    private boolean person(int i) {
        return in(i, 0, people.persons.size() - 1);
    }

    private boolean trade(int j) {
        return in(j, 0, people.trades.size() - 1);
    }

    private int has(int i, int d, int j, int step) {
        int skill = people.trades.get(j).charAt(step) - '0';
        return people.persons.get(i)[d].skills >> skill & 1;
    }

    int write(int n, long v) {
        if (!in(n, 1, 8)) {
            return BAD;
        }
        if (text.length() + n > 300) {
            return FULL;
        }
        StringBuilder more = new StringBuilder();
        for (int k = 0; k < n; k++) {
            more.insert(0, (char) (v >> 8 * k & 255));
        }
        text += more;
        return text.length();
    }

    int wipe() {
        int was = text.length();
        text = "";
        return was;
    }

    int fault() {
        return parse(text, new People());
    }

    int lay() {
        People told = new People();
        if (parse(text, told) != NONE || told.persons.isEmpty()) {
            return NO;
        }
        people = told;
        now = first();
        kept.clear();
        deeds.clear();
        return people.persons.size();
    }

    int half(int i, int d, int what) {
        if (!person(i) || !in(d, 0, 1) || !in(what, 0, 2)) {
            return BAD;
        }
        if (what == 0) {
            return people.persons.get(i)[d].skills;
        }
        if (what == 1) {
            return bits(now.facts.get(i).get(d));
        }
        return now.shift % 2 == d ? 0 : bits(now.notes.get(i));
    }

    int see(int i, int fact) {
        if (!person(i) || !in(fact, 0, 7)) {
            return BAD;
        }
        awake(now, i).add(fact);
        return bits(awake(now, i));
    }

    int note(int i, int fact) {
        if (!person(i) || !in(fact, 0, 7)) {
            return BAD;
        }
        if (!awake(now, i).contains(fact)) {
            return NO;
        }
        now.notes.get(i).add(fact);
        return bits(now.notes.get(i));
    }

    int deed(int i, int facts) {
        if (!person(i) || !in(facts, 0, 255)) {
            return BAD;
        }
        return awake(now, i).containsAll(set(facts)) ? 1 : 0;
    }

    int shifts(int n) {
        if (!in(n, 1, 40)) {
            return BAD;
        }
        if (now.shift + n > 9999) {
            return NO;
        }
        now = after(now, n);
        return now.shift;
    }

    int done(int i, int j) {
        if (!person(i) || !trade(j)) {
            return BAD;
        }
        int step = 0;
        for (int n = 0; n < 1000; n++) {
            int left = people.mostSteps;
            while (left > 0 && step < people.trades.get(j).length() && has(i, (now.shift + n) % 2, j, step) == 1) {
                step++;
                left--;
            }
            if (step == people.trades.get(j).length()) {
                return n + 1;
            }
        }
        return NONE;
    }

    int handed(int i, int j) {
        if (!person(i) || !trade(j)) {
            return BAD;
        }
        int length = people.trades.get(j).length();
        int fewest = NONE;
        for (int way = 0; way < 1 << length; way++) {
            int changes = 0;
            boolean can = true;
            for (int s = 0; s < length; s++) {
                int side = way >> s & 1;
                can &= has(i, side, j, s) == 1;
                changes += s > 0 && side != (way >> s - 1 & 1) ? 1 : 0;
            }
            if (can && (fewest == NONE || changes < fewest)) {
                fewest = changes;
            }
        }
        return fewest;
    }

    int best(int j) {
        if (!trade(j)) {
            return BAD;
        }
        for (int n = 1; n < 1000; n++) {
            for (int i = 0; i < people.persons.size(); i++) {
                if (done(i, j) == n) {
                    return i;
                }
            }
        }
        return NONE;
    }

    int knows(int n, int i, int d) {
        if (!in(n, 0, 40) || !person(i) || !in(d, 0, 1)) {
            return BAD;
        }
        return bits(after(now, n).facts.get(i).get(d));
    }

    private TreeSet<Integer> able(Moment moment, int facts) {
        TreeSet<Integer> able = new TreeSet<>();
        for (int i = 0; i < people.persons.size(); i++) {
            if (awake(moment, i).containsAll(set(facts))) {
                able.add(i);
            }
        }
        return able;
    }

    int could(int n, int facts) {
        if (!in(n, 0, 40) || !in(facts, 0, 255)) {
            return BAD;
        }
        return bits(able(after(now, n), facts));
    }

    int alike(int i) {
        if (!person(i)) {
            return BAD;
        }
        for (int n = 0; n <= 100; n++) {
            List<TreeSet<Integer>> both = after(now, n).facts.get(i);
            if (both.get(0).equals(both.get(1))) {
                return n;
            }
        }
        return NONE;
    }

    int purse(int x, int y, int d) {
        if (!in(x, 0, 9) || !in(y, 0, 9) || !in(d, 0, 1)) {
            return BAD;
        }
        if (x + y > people.purse[0]) {
            return 0;
        }
        return (d == 0 ? x * people.purse[1] : y * people.purse[2]) + (people.purse[0] - x - y) / 2;
    }

    int rests(int what) {
        if (!in(what, 0, 2)) {
            return BAD;
        }
        List<int[]> found = new ArrayList<>();
        for (int x = 0; x < 10; x++) {
            for (int y = 0; y < 10; y++) {
                boolean rest = true;
                for (int other = 0; other < 10; other++) {
                    rest &= purse(other, y, 0) <= purse(x, y, 0) && purse(x, other, 1) <= purse(x, y, 1);
                }
                if (rest) {
                    found.add(new int[] {x, y});
                }
            }
        }
        if (what == 0) {
            return found.size();
        }
        return found.isEmpty() ? NONE : found.get(0)[what - 1];
    }

    private int parted(int way) {
        int parted = 0;
        for (int[] m : people.married) {
            int campOne = m[1] == 0 ? way >> m[0] & 1 : 1 - (way >> m[0] & 1);
            int campTwo = m[3] == 0 ? way >> m[2] & 1 : 1 - (way >> m[2] & 1);
            parted += campOne == campTwo ? 0 : 1;
        }
        return parted;
    }

    int camps(int what) {
        if (!in(what, 0, 1)) {
            return BAD;
        }
        for (int most = 0; most <= 8; most++) {
            for (int way = 0; way < 1 << people.persons.size(); way++) {
                if (parted(way) == most) {
                    return what == 0 ? most : way;
                }
            }
        }
        throw new IllegalStateException();
    }

    int seen(int t, int facts) {
        if (!in(t, 0, 40) || !in(facts, 0, 255)) {
            return BAD;
        }
        if (deeds.size() == 10) {
            return FULL;
        }
        deeds.add(new int[] {t, facts});
        return deeds.size();
    }

    int forget() {
        int were = deeds.size();
        deeds.clear();
        return were;
    }

    int fits() {
        int sum = 0;
        for (int i = 0; i < people.persons.size(); i++) {
            boolean all = true;
            for (int[] deed : deeds) {
                all &= able(after(first(), deed[0]), deed[1]).contains(i);
            }
            sum += all ? 1 << i : 0;
        }
        return sum;
    }

    int least() {
        for (int size = 0; size <= 5; size++) {
            for (int of = 0; of < 1 << people.persons.size(); of++) {
                boolean all = Integer.bitCount(of) == size;
                for (int k = 0; all && k < deeds.size(); k++) {
                    TreeSet<Integer> able = able(after(first(), deeds.get(k)[0]), deeds.get(k)[1]);
                    able.retainAll(set(of));
                    all = !able.isEmpty();
                }
                if (all) {
                    return of;
                }
            }
        }
        return NONE;
    }

    int month(int z, int n, int i, int d) {
        if (!in(z, 0, 9999) || !in(n, 1, 60) || !person(i) || !in(d, 0, 1)) {
            return BAD;
        }
        Moment moment = now.copy();
        for (long k = 0; k < n; k++) {
            long x = 7919L * z + 6151 * k + 1;
            int drawn = java.math.BigInteger.valueOf(x).pow(2).mod(java.math.BigInteger.valueOf(65521)).intValue();
            awake(moment, drawn / 8 % people.persons.size()).add(drawn % 8);
            end(moment);
        }
        return bits(moment.facts.get(i).get(d));
    }

    int keep() {
        if (kept.size() == 2) {
            return FULL;
        }
        kept.add(now.copy());
        return kept.size();
    }

    int back() {
        if (kept.isEmpty()) {
            return NO;
        }
        now = kept.remove(kept.size() - 1);
        return kept.size();
    }

    int count(int what) {
        int[] counts = {people.persons.size(), people.trades.size(), people.married.size(), now.shift, deeds.size(),
            kept.size(), text.length(), people.mostSteps, people.mostTold};
        return in(what, 0, 8) ? counts[what] : BAD;
    }
}
