import java.util.ArrayList;
import java.util.List;
import java.util.function.Consumer;
import java.util.function.ToIntFunction;

/**
 * BAD, NO, NONE, FULL: every number of every call on either side of each of its edges, the order of refusals, and that
 * nothing changes by a refused call, nor by one that only asks.
 */
public final class RefusalTest {
    private static final int BAD = HalfAsleep.BAD, NO = HalfAsleep.NO, FULL = HalfAsleep.FULL, NONE = HalfAsleep.NONE;
    private static final Check CHECK = new Check();
    private static final Twins TWINS = new Twins(CHECK);

    /** A call with one number left open. */
    private interface Open {
        int with(HalfAsleep x, int number);
    }

    /** A history, and how many PERSONS and TRADES there are behind it. */
    private record World(String name, int persons, int trades, Consumer<HalfAsleep> history) { }

    private static final List<World> WORLDS = List.of(
            new World("a new object", 1, 1, x -> { }),
            new World("no TRADES", 1, 0, x -> layText(x, "p1,2;")),
            new World("two and one", 2, 1, RefusalTest::richHistory),
            new World("all that there can be", 5, 4, RefusalTest::mostOfAll),
            new World("fewer than before", 3, 2, RefusalTest::fewerThanBefore));

    public static void main(String[] args) {
        for (World world : WORLDS) {
            people(world);
            shifts(world);
            trades(world);
            whatIsKnown(world);
            pursesAndCamps(world);
            deedsAndMonths(world);
        }
        badAheadOfNo();
        badAheadOfNone();
        badAheadOfFull();
        severalWrongNumbers();
        refusedCallsChangeNothing();
        askingChangesNothing();
        CHECK.end("RefusalTest");
    }

    private static void layText(HalfAsleep x, String text) {
        x.wipe();
        Check.write(x, text);
        x.lay();
    }

    private static void richHistory(HalfAsleep x) {
        layText(x, "p3,12;p21,42;j0123;c2;n1;k0,0,15;k1,1,240;m0,0,1,1;u10,2,3;");
        x.see(1, 7);
        x.note(1, 7);
        x.keep();
        x.shifts(1);
        x.see(0, 3);
        x.note(0, 3);
        x.seen(1, 1);
        x.seen(0, 8);
    }

    private static void mostOfAll(HalfAsleep x) {
        layText(x, "p63,63;".repeat(5) + "j01234501;j5;j1;j2;" + "m0,0,4,1;".repeat(8) + "c8;n8;k4,1,255;k4,0,3;u20,9,9;");
        x.note(4, 1);
        x.keep();
        x.shifts(39);
        x.keep();
        for (int k = 0; k < 10; k++) {
            x.seen(k, 1);
        }
    }

    private static void fewerThanBefore(HalfAsleep x) {
        mostOfAll(x);
        layText(x, "p1,2;p1,2;p1,2;j0;j1;k2,0,129;");
    }

    /**
     * From low to high the call does not answer BAD; just outside, far outside, and where a byte, a short or a bit cut off
     * would be a right number again, it does, and nothing changes.
     */
    private static void range(World world, String call, int low, int high, Open open) {
        CHECK.about("BAD: a number is none that is told; " + world.name());
        for (int number = low; number <= high; number++) {
            HalfAsleep x = new HalfAsleep();
            world.history().accept(x);
            CHECK.holds(call + " by " + number + " is not BAD", open.with(x, number) != BAD);
        }
        for (int number : outside(low, high)) {
            TWINS.unchanged(call + " by " + number, world.history(), x -> open.with(x, number), BAD);
        }
    }

    private static List<Integer> outside(int low, int high) {
        List<Integer> numbers = new ArrayList<>(List.of(low - 1, high + 1, low - 2, high + 2, Integer.MIN_VALUE,
                Integer.MIN_VALUE + 1, Integer.MAX_VALUE, Integer.MAX_VALUE - 1));
        for (int power = 8; power <= 31; power++) {
            numbers.add(low + (1 << power));
            numbers.add(high + (1 << power));
            numbers.add(low - (1 << power));
        }
        numbers.removeIf(number -> number >= low && number <= high);
        return numbers;
    }

    private static void people(World w) {
        int last = w.persons() - 1;
        range(w, "write n", 1, 8, (x, n) -> x.write(n, -1));
        range(w, "half i", 0, last, (x, n) -> x.half(n, 0, 0));
        range(w, "half i, what it knows", 0, last, (x, n) -> x.half(n, 1, 1));
        range(w, "half i, what hangs", 0, last, (x, n) -> x.half(n, 1, 2));
        range(w, "half d", 0, 1, (x, n) -> x.half(last, n, 0));
        range(w, "half d, what it knows", 0, 1, (x, n) -> x.half(last, n, 1));
        range(w, "half d, what hangs", 0, 1, (x, n) -> x.half(0, n, 2));
        range(w, "half what", 0, 2, (x, n) -> x.half(last, 1, n));
    }

    private static void shifts(World w) {
        int last = w.persons() - 1;
        range(w, "see i", 0, last, (x, n) -> x.see(n, 7));
        range(w, "see fact", 0, 7, (x, n) -> x.see(last, n));
        range(w, "note i", 0, last, (x, n) -> x.note(n, 0));
        range(w, "note fact", 0, 7, (x, n) -> x.note(last, n));
        range(w, "deed i", 0, last, (x, n) -> x.deed(n, 255));
        range(w, "deed facts", 0, 255, (x, n) -> x.deed(last, n));
        range(w, "shifts n", 1, 40, (x, n) -> x.shifts(n));
    }

    private static void trades(World w) {
        int last = w.persons() - 1;
        range(w, "done j", 0, w.trades() - 1, (x, n) -> x.done(last, n));
        range(w, "handed j", 0, w.trades() - 1, (x, n) -> x.handed(last, n));
        range(w, "best j", 0, w.trades() - 1, (x, n) -> x.best(n));
        if (w.trades() > 0) {
            range(w, "done i", 0, last, (x, n) -> x.done(n, w.trades() - 1));
            range(w, "handed i", 0, last, (x, n) -> x.handed(n, w.trades() - 1));
        }
    }

    private static void whatIsKnown(World w) {
        int last = w.persons() - 1;
        range(w, "knows n", 0, 40, (x, n) -> x.knows(n, last, 1));
        range(w, "knows i", 0, last, (x, n) -> x.knows(40, n, 0));
        range(w, "knows d", 0, 1, (x, n) -> x.knows(0, 0, n));
        range(w, "could n", 0, 40, (x, n) -> x.could(n, 255));
        range(w, "could facts", 0, 255, (x, n) -> x.could(40, n));
        range(w, "alike i", 0, last, (x, n) -> x.alike(n));
    }

    private static void pursesAndCamps(World w) {
        range(w, "purse x", 0, 9, (x, n) -> x.purse(n, 0, 0));
        range(w, "purse y", 0, 9, (x, n) -> x.purse(9, n, 1));
        range(w, "purse d", 0, 1, (x, n) -> x.purse(9, 9, n));
        range(w, "rests what", 0, 2, (x, n) -> x.rests(n));
        range(w, "camps what", 0, 1, (x, n) -> x.camps(n));
    }

    private static void deedsAndMonths(World w) {
        int last = w.persons() - 1;
        range(w, "seen t", 0, 40, (x, n) -> x.seen(n, 255));
        range(w, "seen facts", 0, 255, (x, n) -> x.seen(40, n));
        range(w, "month z", 0, 9999, (x, n) -> x.month(n, 1, last, 0));
        range(w, "month n", 1, 60, (x, n) -> x.month(9999, n, 0, 1));
        range(w, "month i", 0, last, (x, n) -> x.month(0, 60, n, 1));
        range(w, "month d", 0, 1, (x, n) -> x.month(0, 1, last, n));
        range(w, "count what", 0, 8, (x, n) -> x.count(n));
    }

    private static void unchanged(String name, Consumer<HalfAsleep> history, ToIntFunction<HalfAsleep> call, int want) {
        TWINS.unchanged(name, history, call, want);
    }

    private static void toLastShift(HalfAsleep x) {
        for (int k = 1; k < 250; k++) {
            x.shifts(40);
        }
        x.shifts(39);
    }

    private static void badAheadOfNo() {
        CHECK.about("Of several the first in this order: BAD ahead of NO");
        Consumer<HalfAsleep> unknowing = x -> layText(x, "p1,1;p1,1;k0,1,255;k1,1,255;");
        unchanged("note(0, 0)", unknowing, x -> x.note(0, 0), NO);
        unchanged("note(1, 7)", unknowing, x -> x.note(1, 7), NO);
        unchanged("note(2, 0)", unknowing, x -> x.note(2, 0), BAD);
        unchanged("note(-1, 0)", unknowing, x -> x.note(-1, 0), BAD);
        unchanged("note(0, 8)", unknowing, x -> x.note(0, 8), BAD);
        unchanged("note(0, -1)", unknowing, x -> x.note(0, -1), BAD);
        unchanged("shifts(1) at 9999", RefusalTest::toLastShift, x -> x.shifts(1), NO);
        unchanged("shifts(40) at 9999", RefusalTest::toLastShift, x -> x.shifts(40), NO);
        unchanged("shifts(0) at 9999", RefusalTest::toLastShift, x -> x.shifts(0), BAD);
        unchanged("shifts(41) at 9999", RefusalTest::toLastShift, x -> x.shifts(41), BAD);
        unchanged("shifts(MAX) at 9999", RefusalTest::toLastShift, x -> x.shifts(Integer.MAX_VALUE), BAD);
        unchanged("shifts(MIN) at 9999", RefusalTest::toLastShift, x -> x.shifts(Integer.MIN_VALUE), BAD);
    }

    private static void badAheadOfNone() {
        CHECK.about("Of several the first in this order, whatever the order at a call: BAD ahead of NONE");
        Consumer<HalfAsleep> unable = x -> layText(x, "p0,0;p0,0;j0;n0;k0,0,1;k1,1,1;");
        unchanged("done(1, 0)", unable, x -> x.done(1, 0), NONE);
        unchanged("done(2, 0)", unable, x -> x.done(2, 0), BAD);
        unchanged("done(0, 1)", unable, x -> x.done(0, 1), BAD);
        unchanged("handed(1, 0)", unable, x -> x.handed(1, 0), NONE);
        unchanged("handed(2, 0)", unable, x -> x.handed(2, 0), BAD);
        unchanged("handed(0, 1)", unable, x -> x.handed(0, 1), BAD);
        unchanged("best(0)", unable, x -> x.best(0), NONE);
        unchanged("best(1)", unable, x -> x.best(1), BAD);
        unchanged("alike(1)", unable, x -> x.alike(1), NONE);
        unchanged("alike(2)", unable, x -> x.alike(2), BAD);
        unchanged("least()", x -> x.seen(0, 1), x -> x.least(), NONE);
        unchanged("fault()", x -> layText(x, "p1,2;"), x -> x.fault(), NONE);
    }

    private static void badAheadOfFull() {
        CHECK.about("Of several the first in this order: BAD ahead of FULL");
        Consumer<HalfAsleep> fullText = x -> Check.write(x, "p1,2;" + "c1;".repeat(98) + "c");
        unchanged("write(1) at 300", fullText, x -> x.write(1, ';'), FULL);
        unchanged("write(8) at 300", fullText, x -> x.write(8, ';'), FULL);
        unchanged("write(0) at 300", fullText, x -> x.write(0, ';'), BAD);
        unchanged("write(9) at 300", fullText, x -> x.write(9, ';'), BAD);
        unchanged("seen(0, 0) of ten", RefusalTest::mostOfAll, x -> x.seen(0, 0), FULL);
        unchanged("seen(40, 255) of ten", RefusalTest::mostOfAll, x -> x.seen(40, 255), FULL);
        unchanged("seen(41, 0) of ten", RefusalTest::mostOfAll, x -> x.seen(41, 0), BAD);
        unchanged("seen(0, 256) of ten", RefusalTest::mostOfAll, x -> x.seen(0, 256), BAD);
    }

    private static void severalWrongNumbers() {
        CHECK.about("BAD: several numbers at once are none that are told");
        int[] wrong = {-1, 256, Integer.MIN_VALUE, Integer.MAX_VALUE};
        for (int a : wrong) {
            for (int b : wrong) {
                Consumer<HalfAsleep> history = RefusalTest::richHistory;
                unchanged("half", history, x -> x.half(a, b, a), BAD);
                unchanged("see", history, x -> x.see(a, b), BAD);
                unchanged("note", history, x -> x.note(a, b), BAD);
                unchanged("deed", history, x -> x.deed(a, b), BAD);
                unchanged("done", history, x -> x.done(a, b), BAD);
                unchanged("handed", history, x -> x.handed(a, b), BAD);
                unchanged("knows", history, x -> x.knows(a, b, a), BAD);
                unchanged("could", history, x -> x.could(a, b), BAD);
                unchanged("purse", history, x -> x.purse(a, b, b), BAD);
                unchanged("seen", history, x -> x.seen(a, b), BAD);
                unchanged("month", history, x -> x.month(a, b, a, b), BAD);
            }
        }
    }

    private static void refusedCallsChangeNothing() {
        CHECK.about("nothing changes then");
        Consumer<HalfAsleep> spoilt = x -> {
            richHistory(x);
            Check.write(x, "k9");
        };
        unchanged("lay() with a fault", spoilt, x -> x.lay(), NO);
        unchanged("fault()", spoilt, x -> x.fault(), 59);
        Consumer<HalfAsleep> nobody = x -> {
            richHistory(x);
            x.wipe();
            Check.write(x, "j5;c8;n8;u1,1,1;");
        };
        unchanged("lay() without a PERSON", nobody, x -> x.lay(), NO);
        Consumer<HalfAsleep> empty = x -> {
            richHistory(x);
            x.wipe();
        };
        unchanged("lay() of nothing", empty, x -> x.lay(), NO);
        unchanged("lay() of nothing, twice", empty, x -> x.lay() + x.lay(), 2 * NO);
        Consumer<HalfAsleep> noneKept = x -> {
            richHistory(x);
            x.back();
            x.see(0, 6);
        };
        unchanged("back() of none", noneKept, x -> x.back(), NO);
        unchanged("keep() of a third", RefusalTest::mostOfAll, x -> x.keep(), FULL);
        unchanged("a NOTE of what RIGHT does not know", RefusalTest::richHistory, x -> x.note(0, 7), NO);
    }

    private static void askingChangesNothing() {
        CHECK.about("a call that only asks changes nothing");
        for (World world : WORLDS) {
            HalfAsleep once = new HalfAsleep();
            world.history().accept(once);
            List<ToIntFunction<HalfAsleep>> questions = List.of(
                    x -> x.fault(), x -> x.half(0, 1, 2), x -> x.deed(0, 0), x -> x.deed(0, 255), x -> x.done(0, 0),
                    x -> x.handed(0, 0), x -> x.best(0), x -> x.knows(40, 0, 1), x -> x.could(39, 1), x -> x.alike(0),
                    x -> x.purse(9, 9, 0), x -> x.rests(0), x -> x.camps(1), x -> x.fits(), x -> x.least(),
                    x -> x.month(9999, 60, 0, 0), x -> x.count(3));
            for (int k = 0; k < questions.size(); k++) {
                int answer = questions.get(k).applyAsInt(once);
                unchanged("question " + k + ", " + world.name(), world.history(), questions.get(k), answer);
            }
        }
    }
}
