import java.util.ArrayList;
import java.util.List;
import java.util.function.Consumer;
import java.util.function.ToIntFunction;

/**
 * Two objects with one history: one of them is asked for something more. Nothing that can be seen from outside, now or
 * behind calls that bring hidden things to light (KEPT moments, THE TEXT's bytes, NOTES), may tell the two apart then.
 */
final class Twins {
    /** What is done to both ahead of the look: none of these would change a thing on one alone. */
    private static final List<Consumer<HalfAsleep>> WAYS_TO_LOOK = List.of(
            x -> { },
            x -> x.back(),
            x -> {
                x.back();
                x.back();
            },
            x -> x.shifts(1),
            x -> x.lay(),
            x -> {
                Check.write(x, "p9,18;");
                x.lay();
            },
            x -> {
                Check.write(x, ";");
                x.lay();
            });

    private final Check check;

    Twins(Check check) {
        this.check = check;
    }

    /** The call answers what is due and changes nothing. */
    void unchanged(String name, Consumer<HalfAsleep> history, ToIntFunction<HalfAsleep> call, int want) {
        for (int way = 0; way < WAYS_TO_LOOK.size(); way++) {
            HalfAsleep one = new HalfAsleep();
            HalfAsleep other = new HalfAsleep();
            history.accept(one);
            history.accept(other);
            check.due(name, call.applyAsInt(one), want);
            WAYS_TO_LOOK.get(way).accept(one);
            WAYS_TO_LOOK.get(way).accept(other);
            check.holds("nothing changes by " + name + " (look " + way + ")", everything(one).equals(everything(other)));
        }
    }

    /** All that calls tell which change nothing themselves: some 120 calls at most. */
    static List<Integer> everything(HalfAsleep x) {
        List<Integer> all = new ArrayList<>();
        for (int what = 0; what <= 8; what++) {
            all.add(x.count(what));
        }
        all.add(x.fault());
        for (int i = 0; i < x.count(0); i++) {
            ofPerson(x, i, all);
        }
        for (int j = 0; j < x.count(1); j++) {
            all.add(x.best(j));
        }
        for (int fact = 0; fact < 8; fact++) {
            all.add(x.could(1, 1 << fact));
        }
        all.addAll(List.of(x.fits(), x.least(), x.camps(0), x.camps(1), x.rests(0), x.rests(1), x.rests(2)));
        all.addAll(List.of(x.purse(3, 4, 0), x.purse(3, 4, 1)));
        return all;
    }

    private static void ofPerson(HalfAsleep x, int i, List<Integer> all) {
        for (int d = 0; d < 2; d++) {
            for (int what = 0; what < 3; what++) {
                all.add(x.half(i, d, what));
            }
            all.add(x.knows(3, i, d));
        }
        all.add(x.alike(i));
        for (int j = 0; j < x.count(1); j++) {
            all.add(x.done(i, j));
            all.add(x.handed(i, j));
        }
    }
}
