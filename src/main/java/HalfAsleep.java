/**
 * People of whom one half always sleeps, the right by night, the left by day.
 *
 * <p>Every row that a call needs is made in the constructor and used again, because all calls of a run
 * share one room: no call makes an object.
 */
public final class HalfAsleep {
    public static final int BAD = -1, NO = -2, FULL = -3, NONE = -4;

    private static final int MOST_BYTES = 300;
    private static final int MOST_PERSONS = 5;
    private static final int MOST_HALVES = 2 * MOST_PERSONS;
    private static final int MOST_TRADES = 4;
    private static final int MOST_STEPS = 8;
    private static final int MOST_PAIRS = 8;
    private static final int MOST_DEEDS = 10;
    private static final int MOST_KEPT = 2;
    private static final int MOST_NUMBERS = 4;
    private static final int MOST_FIGURES = 3;
    private static final int ALL_FACTS = 255;
    private static final int LAST_SHIFT = 9999;
    private static final int MOST_AHEAD = 40;
    private static final int TAKES = 10;

    private final Page page = new Page();
    private Town laid = new Town();
    private Town draft = new Town();
    private final Standing now = new Standing();
    private final Standing trial = new Standing();
    private final Standing firstKept = new Standing();
    private final Standing secondKept = new Standing();
    private int keptNumber;
    private final int[] doers = new int[MOST_DEEDS];
    private int deeds;
    private final int[] mostLeft = new int[TAKES];
    private final int[] mostRight = new int[TAKES];

    public HalfAsleep() {
        laid.addPerson(1, 2);
        laid.addStep(0);
        laid.addStep(1);
        laid.endTrade();
        now.startFrom(laid);
    }

    // ---- people

    public int write(int n, long v) {
        if (n < 1 || n > 8) {
            return BAD;
        }
        if (page.length + n > MOST_BYTES) {
            return FULL;
        }
        for (int k = n - 1; k >= 0; k--) {
            page.append((byte) (v >>> (8 * k)));
        }
        return page.length;
    }

    public int wipe() {
        int was = page.length;
        page.length = 0;
        return was;
    }

    public int fault() {
        return page.readInto(draft);
    }

    public int lay() {
        if (page.readInto(draft) != NONE || draft.persons == 0) {
            return NO;
        }
        Town old = laid;
        laid = draft;
        draft = old;
        now.startFrom(laid);
        deeds = 0;
        keptNumber = 0;
        return laid.persons;
    }

    public int half(int i, int d, int what) {
        if (!isPerson(i) || !isHalf(d)) {
            return BAD;
        }
        switch (what) {
            case 0:
                return laid.skills[2 * i + d];
            case 1:
                return now.known[2 * i + d];
            case 2:
                return d == now.awake() ? 0 : now.hung[i];
            default:
                return BAD;
        }
    }

    // ---- shifts

    public int see(int i, int fact) {
        if (!isPerson(i) || !isFact(fact)) {
            return BAD;
        }
        now.learn(i, fact);
        return now.awakeKnows(i);
    }

    public int note(int i, int fact) {
        if (!isPerson(i) || !isFact(fact)) {
            return BAD;
        }
        int bit = 1 << fact;
        if ((now.awakeKnows(i) & bit) == 0) {
            return NO;
        }
        now.hung[i] |= bit;
        return now.hung[i];
    }

    public int deed(int i, int facts) {
        if (!isPerson(i) || !areFacts(facts)) {
            return BAD;
        }
        return holdsAll(now.awakeKnows(i), facts) ? 1 : 0;
    }

    public int shifts(int n) {
        if (n < 1 || n > MOST_AHEAD) {
            return BAD;
        }
        if (now.shift + n > LAST_SHIFT) {
            return NO;
        }
        now.endShifts(laid, n);
        return now.shift;
    }

    // ---- trades

    public int done(int i, int j) {
        if (!isPerson(i) || !isTrade(j)) {
            return BAD;
        }
        return laid.shiftsNeeded(i, j, now.shift);
    }

    public int handed(int i, int j) {
        if (!isPerson(i) || !isTrade(j)) {
            return BAD;
        }
        return laid.fewestHandings(i, j);
    }

    public int best(int j) {
        if (!isTrade(j)) {
            return BAD;
        }
        int soonest = NONE;
        int who = NONE;
        for (int i = 0; i < laid.persons; i++) {
            int needed = laid.shiftsNeeded(i, j, now.shift);
            if (needed != NONE && (who == NONE || needed < soonest)) {
                soonest = needed;
                who = i;
            }
        }
        return who;
    }

    // ---- what is known

    public int knows(int n, int i, int d) {
        if (!isAhead(n) || !isPerson(i) || !isHalf(d)) {
            return BAD;
        }
        trial.copyFrom(now);
        trial.endShifts(laid, n);
        return trial.known[2 * i + d];
    }

    public int could(int n, int facts) {
        if (!isAhead(n) || !areFacts(facts)) {
            return BAD;
        }
        trial.copyFrom(now);
        trial.endShifts(laid, n);
        return trial.ableTo(facts, laid.persons);
    }

    public int alike(int i) {
        if (!isPerson(i)) {
            return BAD;
        }
        trial.copyFrom(now);
        for (int n = 0; n <= MOST_AHEAD; n++) {
            if (trial.known[2 * i] == trial.known[2 * i + 1]) {
                return n;
            }
            trial.endShifts(laid, 1);
        }
        return NONE;
    }

    // ---- purses, camps

    public int purse(int x, int y, int d) {
        if (!isTake(x) || !isTake(y) || !isHalf(d)) {
            return BAD;
        }
        return laid.share(x, y, d);
    }

    public int rests(int what) {
        if (what < 0 || what > 2) {
            return BAD;
        }
        findMostByTakes();
        int found = 0;
        int first = NONE;
        for (int x = 0; x < TAKES; x++) {
            for (int y = 0; y < TAKES; y++) {
                if (laid.share(x, y, 0) == mostLeft[y] && laid.share(x, y, 1) == mostRight[x]) {
                    first = found == 0 ? TAKES * x + y : first;
                    found++;
                }
            }
        }
        if (what == 0) {
            return found;
        }
        if (first == NONE) {
            return NONE;
        }
        return what == 1 ? first / TAKES : first % TAKES;
    }

    public int camps(int what) {
        if (what < 0 || what > 1) {
            return BAD;
        }
        int bestWay = 0;
        int fewest = laid.partings(0);
        for (int way = 1; way < 1 << laid.persons; way++) {
            int parted = laid.partings(way);
            if (parted < fewest) {
                fewest = parted;
                bestWay = way;
            }
        }
        return what == 0 ? fewest : bestWay;
    }

    // ---- deeds, months

    public int seen(int t, int facts) {
        if (!isAhead(t) || !areFacts(facts)) {
            return BAD;
        }
        if (deeds >= MOST_DEEDS) {
            return FULL;
        }
        // Who could have done it hangs on what is LAID alone, and a new lay forgets all deeds:
        // so it is found once, here.
        trial.startFrom(laid);
        trial.endShifts(laid, t);
        doers[deeds] = trial.ableTo(facts, laid.persons);
        deeds++;
        return deeds;
    }

    public int forget() {
        int were = deeds;
        deeds = 0;
        return were;
    }

    public int fits() {
        int fitting = (1 << laid.persons) - 1;
        for (int k = 0; k < deeds; k++) {
            fitting &= doers[k];
        }
        return fitting;
    }

    public int least() {
        int smallest = NONE;
        int size = MOST_PERSONS + 1;
        for (int set = 0; set < 1 << laid.persons; set++) {
            int members = Integer.bitCount(set);
            if (members < size && explainsAllDeeds(set)) {
                size = members;
                smallest = set;
            }
        }
        return smallest;
    }

    public int month(int z, int n, int i, int d) {
        if (z < 0 || z > 9999 || n < 1 || n > 60 || !isPerson(i) || !isHalf(d)) {
            return BAD;
        }
        trial.copyFrom(now);
        for (int k = 0; k < n; k++) {
            int drawn = draw(z, k);
            trial.learn(laid.personByDraw(drawn), drawn % 8);
            trial.endShifts(laid, 1);
        }
        return trial.known[2 * i + d];
    }

    public int keep() {
        if (keptNumber >= MOST_KEPT) {
            return FULL;
        }
        keptPlace(keptNumber).copyFrom(now);
        keptNumber++;
        return keptNumber;
    }

    public int back() {
        if (keptNumber <= 0) {
            return NO;
        }
        keptNumber--;
        now.copyFrom(keptPlace(keptNumber));
        return keptNumber;
    }

    public int count(int what) {
        switch (what) {
            case 0:
                return laid.persons;
            case 1:
                return laid.trades;
            case 2:
                return laid.pairs;
            case 3:
                return now.shift;
            case 4:
                return deeds;
            case 5:
                return keptNumber;
            case 6:
                return page.length;
            case 7:
                return laid.stepsPerShift;
            case 8:
                return laid.factsTold;
            default:
                return BAD;
        }
    }

    // ---- what the calls share

    private boolean isPerson(int i) {
        return i >= 0 && i < laid.persons;
    }

    private boolean isTrade(int j) {
        return j >= 0 && j < laid.trades;
    }

    private static boolean isHalf(int d) {
        return d == 0 || d == 1;
    }

    private static boolean isFact(int fact) {
        return fact >= 0 && fact < 8;
    }

    private static boolean areFacts(int facts) {
        return facts >= 0 && facts <= ALL_FACTS;
    }

    private static boolean isAhead(int n) {
        return n >= 0 && n <= MOST_AHEAD;
    }

    private static boolean isTake(int coins) {
        return coins >= 0 && coins < TAKES;
    }

    private static boolean holdsAll(int known, int facts) {
        return (known & facts) == facts;
    }

    private static int draw(int z, int k) {
        long x = 7919L * z + 6151L * k + 1;
        return (int) ((x * x) % 65521);
    }

    private Standing keptPlace(int k) {
        return k == 0 ? firstKept : secondKept;
    }

    private boolean explainsAllDeeds(int set) {
        for (int k = 0; k < deeds; k++) {
            if ((doers[k] & set) == 0) {
                return false;
            }
        }
        return true;
    }

    /** The most that LEFT can have by each y of RIGHT, and RIGHT by each x of LEFT. */
    private void findMostByTakes() {
        for (int other = 0; other < TAKES; other++) {
            mostLeft[other] = 0;
            mostRight[other] = 0;
            for (int own = 0; own < TAKES; own++) {
                mostLeft[other] = Math.max(mostLeft[other], laid.share(own, other, 0));
                mostRight[other] = Math.max(mostRight[other], laid.share(other, own, 1));
            }
        }
    }

    /** What a TEXT tells. The row of a half is 2 times its PERSON and 0 for LEFT, 1 for RIGHT. */
    private static final class Town {
        private int persons;
        private final int[] skills = new int[MOST_HALVES];
        private final int[] knownFirst = new int[MOST_HALVES];
        private int trades;
        private final int[] steps = new int[MOST_TRADES * MOST_STEPS];
        private final int[] tradeLengths = new int[MOST_TRADES];
        private int openSteps;
        private int pairs;
        private final int[] pairHalves = new int[2 * MOST_PAIRS];
        private int stepsPerShift;
        private int factsTold;
        private int coins;
        private int worthLeft;
        private int worthRight;

        Town() {
            empty();
        }

        void empty() {
            persons = 0;
            trades = 0;
            openSteps = 0;
            pairs = 0;
            stepsPerShift = 3;
            factsTold = 2;
            coins = 9;
            worthLeft = 1;
            worthRight = 1;
        }

        boolean addPerson(int left, int right) {
            if (persons >= MOST_PERSONS || left < 0 || left > 63 || right < 0 || right > 63) {
                return false;
            }
            skills[2 * persons] = left;
            skills[2 * persons + 1] = right;
            knownFirst[2 * persons] = 0;
            knownFirst[2 * persons + 1] = 0;
            persons++;
            return true;
        }

        boolean addStep(int skill) {
            if (trades >= MOST_TRADES || openSteps >= MOST_STEPS || skill < 0 || skill > 5) {
                return false;
            }
            steps[MOST_STEPS * trades + openSteps] = skill;
            openSteps++;
            return true;
        }

        boolean endTrade() {
            if (trades >= MOST_TRADES || openSteps == 0) {
                return false;
            }
            tradeLengths[trades] = openSteps;
            openSteps = 0;
            trades++;
            return true;
        }

        boolean setStepsPerShift(int most) {
            if (most < 1 || most > 8) {
                return false;
            }
            stepsPerShift = most;
            return true;
        }

        boolean setFactsTold(int most) {
            if (most < 0 || most > 8) {
                return false;
            }
            factsTold = most;
            return true;
        }

        boolean setKnown(int i, int d, int facts) {
            if (!isHalfHere(i, d) || facts < 0 || facts > ALL_FACTS) {
                return false;
            }
            knownFirst[2 * i + d] = facts;
            return true;
        }

        boolean addPair(int i, int d, int j, int e) {
            if (pairs >= MOST_PAIRS || !isHalfHere(i, d) || !isHalfHere(j, e) || i == j) {
                return false;
            }
            pairHalves[2 * pairs] = 2 * i + d;
            pairHalves[2 * pairs + 1] = 2 * j + e;
            pairs++;
            return true;
        }

        boolean setPurse(int p, int g, int h) {
            if (p < 0 || p > 20 || g < 1 || g > 9 || h < 1 || h > 9) {
                return false;
            }
            coins = p;
            worthLeft = g;
            worthRight = h;
            return true;
        }

        private boolean isHalfHere(int i, int d) {
            return i >= 0 && i < persons && isHalf(d);
        }

        private boolean hasSkillFor(int person, int side, int trade, int step) {
            int skill = steps[MOST_STEPS * trade + step];
            return ((skills[2 * person + side] >> skill) & 1) != 0;
        }

        int shiftsNeeded(int person, int trade, int fromShift) {
            int next = 0;
            // Of two SHIFTS one is of a half that has the next SKILL: twice the STEPS is enough.
            for (int n = 0; n < 2 * MOST_STEPS; n++) {
                next = stepAfterShift(person, (fromShift + n) & 1, trade, next);
                if (next >= tradeLengths[trade]) {
                    return n + 1;
                }
            }
            return NONE;
        }

        private int stepAfterShift(int person, int side, int trade, int first) {
            int end = Math.min(tradeLengths[trade], first + stepsPerShift);
            int next = first;
            while (next < end && hasSkillFor(person, side, trade, next)) {
                next++;
            }
            return next;
        }

        int fewestHandings(int person, int trade) {
            int never = 2 * MOST_STEPS;
            int byLeft = 0;
            int byRight = 0;
            for (int step = 0; step < tradeLengths[trade]; step++) {
                // Nobody is ahead of the first STEP, so both begin at 0 and it costs no handing.
                int left = Math.min(byLeft, byRight + 1);
                int right = Math.min(byRight, byLeft + 1);
                byLeft = hasSkillFor(person, 0, trade, step) ? left : never;
                byRight = hasSkillFor(person, 1, trade, step) ? right : never;
            }
            int fewest = Math.min(byLeft, byRight);
            return fewest >= never ? NONE : fewest;
        }

        int share(int x, int y, int side) {
            int untaken = coins - x - y;
            if (untaken < 0) {
                return 0;
            }
            int own = side == 0 ? x * worthLeft : y * worthRight;
            return own + untaken / 2;
        }

        int partings(int way) {
            int parted = 0;
            for (int k = 0; k < pairs; k++) {
                if (campOf(pairHalves[2 * k], way) != campOf(pairHalves[2 * k + 1], way)) {
                    parted++;
                }
            }
            return parted;
        }

        private static int campOf(int row, int way) {
            int campOfLeft = (way >> (row >> 1)) & 1;
            return campOfLeft ^ (row & 1);
        }

        int personByDraw(int drawn) {
            return persons <= 0 ? 0 : (drawn / 8) % persons;
        }
    }

    /** How THE PEOPLE stand: the SHIFT, what halves know, NOTES that hang. */
    private static final class Standing {
        private int shift;
        private final int[] known = new int[MOST_HALVES];
        private final int[] hung = new int[MOST_PERSONS];

        void startFrom(Town town) {
            shift = 0;
            System.arraycopy(town.knownFirst, 0, known, 0, MOST_HALVES);
            for (int i = 0; i < MOST_PERSONS; i++) {
                hung[i] = 0;
            }
        }

        void copyFrom(Standing other) {
            shift = other.shift;
            System.arraycopy(other.known, 0, known, 0, MOST_HALVES);
            System.arraycopy(other.hung, 0, hung, 0, MOST_PERSONS);
        }

        int awake() {
            return shift & 1;
        }

        int awakeKnows(int person) {
            return known[2 * person + awake()];
        }

        void learn(int person, int fact) {
            known[2 * person + awake()] |= 1 << fact;
        }

        int ableTo(int facts, int persons) {
            int able = 0;
            for (int i = 0; i < persons; i++) {
                if (holdsAll(awakeKnows(i), facts)) {
                    able |= 1 << i;
                }
            }
            return able;
        }

        void endShifts(Town town, int n) {
            for (int k = 0; k < n; k++) {
                for (int i = 0; i < town.persons; i++) {
                    tellOneAnother(i, town.factsTold);
                    readNotes(i);
                }
                shift++;
            }
        }

        private void tellOneAnother(int person, int most) {
            int left = known[2 * person];
            int right = known[2 * person + 1];
            known[2 * person] = left | lowest(right & ~left, most);
            known[2 * person + 1] = right | lowest(left & ~right, most);
        }

        private void readNotes(int person) {
            known[2 * person + 1 - awake()] |= hung[person];
            hung[person] = 0;
        }

        private static int lowest(int facts, int most) {
            int rest = facts;
            for (int k = 0; k < most && rest != 0; k++) {
                rest &= rest - 1;
            }
            return facts & ~rest;
        }
    }

    /** THE TEXT, and how it is read. */
    private static final class Page {
        private final byte[] bytes = new byte[MOST_BYTES];
        private int length;
        private int place;
        private final int[] numbers = new int[MOST_NUMBERS];

        void append(byte b) {
            if (length < MOST_BYTES) {
                bytes[length] = b;
                length++;
            }
        }

        /** FAULT, or NONE: then the town is what THE TEXT tells. */
        int readInto(Town town) {
            town.empty();
            place = 0;
            for (int items = 0; items < MOST_BYTES && place < length; items++) {
                int first = place;
                if (!readItem(town)) {
                    return first;
                }
            }
            return NONE;
        }

        private boolean readItem(Town town) {
            int letter = next();
            place++;
            switch (letter) {
                case 'p':
                    return readNumbers(2) && town.addPerson(numbers[0], numbers[1]);
                case 'j':
                    return readSteps(town) && town.endTrade();
                case 'c':
                    return readNumbers(1) && town.setStepsPerShift(numbers[0]);
                case 'n':
                    return readNumbers(1) && town.setFactsTold(numbers[0]);
                case 'k':
                    return readNumbers(3) && town.setKnown(numbers[0], numbers[1], numbers[2]);
                case 'm':
                    return readNumbers(4) && town.addPair(numbers[0], numbers[1], numbers[2], numbers[3]);
                case 'u':
                    return readNumbers(3) && town.setPurse(numbers[0], numbers[1], numbers[2]);
                default:
                    return false;
            }
        }

        private boolean readNumbers(int wanted) {
            for (int k = 0; k < wanted && k < MOST_NUMBERS; k++) {
                int number = readNumber();
                if (number < 0 || !readSign(k + 1 < wanted ? ',' : ';')) {
                    return false;
                }
                numbers[k] = number;
            }
            return true;
        }

        /** A number of one to three figures, or -1; a fourth figure is left for the sign's test to refuse. */
        private int readNumber() {
            int number = -1;
            for (int k = 0; k < MOST_FIGURES && next() >= '0' && next() <= '9'; k++) {
                number = Math.max(number, 0) * 10 + next() - '0';
                place++;
            }
            return number;
        }

        private boolean readSteps(Town town) {
            for (int k = 0; k < MOST_STEPS && next() != ';'; k++) {
                if (!town.addStep(next() - '0')) {
                    return false;
                }
                place++;
            }
            return readSign(';');
        }

        private boolean readSign(int sign) {
            if (next() != sign) {
                return false;
            }
            place++;
            return true;
        }

        /** The byte at the place, or -1 behind the end; bytes above 127 are below 0 and no sign at all. */
        private int next() {
            return place >= 0 && place < length && place < MOST_BYTES ? bytes[place] : -1;
        }
    }
}
