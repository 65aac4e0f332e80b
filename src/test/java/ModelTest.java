import java.util.Random;

/** Random runs of calls: each answer is compared with the Model's. The seeds are fixed. */
public final class ModelTest {
    private static final Check CHECK = new Check();
    private static final int RUNS = 400;
    private static final int CALLS = 512;
    private static final int KINDS = 27;

    private final Random random;
    private final HalfAsleep real = new HalfAsleep();
    private final Model model = new Model();
    private int calls;

    private ModelTest(int seed) {
        random = new Random(seed);
        CHECK.about("run " + seed);
    }

    public static void main(String[] args) {
        for (int seed = 0; seed < RUNS; seed++) {
            new ModelTest(seed).run();
        }
        everyPurse();
        CHECK.end("ModelTest");
    }

    private void run() {
        if (random.nextInt(10) != 0) {
            writeText(goodText());
            same("lay", real.lay(), model.lay());
        }
        boolean far = random.nextInt(20) == 0;
        while (calls < CALLS) {
            if (far && random.nextInt(3) != 0) {
                same("shifts 40", real.shifts(40), model.shifts(40));
            } else if (random.nextInt(60) == 0) {
                newText();
            } else {
                call(random.nextInt(KINDS));
            }
        }
    }

    private void same(String call, int got, int want) {
        calls++;
        CHECK.due("call " + calls + ", " + call, got, want);
    }

    private int upTo(int most) {
        return random.nextInt(most + 1);
    }

    /** A number from 0 to most, now and then one that is not. */
    private int arg(int most) {
        switch (random.nextInt(40)) {
            case 0:
                return -1;
            case 1:
                return most + 1;
            case 2:
                return random.nextInt();
            case 3:
                return most;
            default:
                return upTo(most);
        }
    }

    private int facts() {
        return random.nextInt(30) == 0 ? arg(255) : upTo(255) & upTo(255) & upTo(255);
    }

    private void newText() {
        if (random.nextInt(5) != 0) {
            same("wipe", real.wipe(), model.wipe());
        }
        String text = goodText();
        if (random.nextInt(2) == 0) {
            text = spoilt(text);
        }
        writeText(text);
        same("fault", real.fault(), model.fault());
        if (random.nextInt(8) == 0) {
            writeAgainShorter(text);
        }
        same("lay", real.lay(), model.lay());
    }

    /** The bytes behind the end are then those that would go on with the text. */
    private void writeAgainShorter(String text) {
        same("wipe", real.wipe(), model.wipe());
        writeText(text.substring(0, upTo(text.length())));
        same("fault", real.fault(), model.fault());
    }

    private void writeText(String text) {
        for (int at = 0; at < text.length();) {
            int n = Math.min(text.length() - at, 1 + upTo(7));
            long v = random.nextLong();
            for (int k = 0; k < n; k++) {
                v = v << 8 | text.charAt(at + k) & 255;
            }
            same("write", real.write(n, v), model.write(n, v));
            at += n;
        }
    }

    private String goodText() {
        StringBuilder text = new StringBuilder();
        int persons = 1 + upTo(4);
        for (int i = 0; i < persons; i++) {
            text.append("p").append(upTo(63)).append(",").append(upTo(63)).append(";");
        }
        int items = upTo(24);
        for (int k = 0; k < items; k++) {
            text.append(item(persons));
        }
        return text.toString();
    }

    private String item(int persons) {
        int i = upTo(persons - 1);
        int j = upTo(persons - 1);
        switch (random.nextInt(8)) {
            case 0:
                return random.nextInt(3) == 0 ? "j" + figures(8) + ";" : "j" + figures(1 + upTo(7)) + ";";
            case 1:
                return "c" + (1 + upTo(7)) + ";";
            case 2:
                return "n" + upTo(8) + ";";
            case 3:
            case 4:
                return "k" + i + "," + upTo(1) + "," + upTo(255) + ";";
            case 5:
                return "u" + upTo(20) + "," + (1 + upTo(8)) + "," + (1 + upTo(8)) + ";";
            default:
                return i == j ? "" : "m" + i + "," + upTo(1) + "," + j + "," + upTo(1) + ";";
        }
    }

    private String figures(int n) {
        StringBuilder row = new StringBuilder();
        for (int k = 0; k < n; k++) {
            row.append(random.nextInt(6));
        }
        return row.toString();
    }

    private String spoilt(String text) {
        StringBuilder row = new StringBuilder(text);
        int at = upTo(row.length() - 1);
        String signs = "pjcnkmu0123456789,;;,x ";
        switch (random.nextInt(5)) {
            case 0:
                row.setCharAt(at, signs.charAt(upTo(signs.length() - 1)));
                break;
            case 1:
                row.deleteCharAt(at);
                break;
            case 2:
                row.insert(at, signs.charAt(upTo(signs.length() - 1)));
                break;
            case 3:
                row.setLength(at);
                break;
            default:
                row.setCharAt(at, (char) upTo(255));
                break;
        }
        return row.toString();
    }

    private void call(int kind) {
        if (kind < 13) {
            callEarly(kind);
        } else {
            callLate(kind);
        }
    }

    private void callEarly(int kind) {
        int a = arg(4);
        int b = arg(3);
        int fact = arg(7);
        int facts = facts();
        int what = arg(2);
        int side = arg(1);
        switch (kind) {
            case 0: {
                int n = arg(8);
                long v = random.nextLong();
                boolean rarely = random.nextInt(10) == 0 || n < 1 || n > 8;
                if (rarely) {
                    same("write " + n, real.write(n, v), model.write(n, v));
                }
                break;
            }
            case 1:
                if (random.nextInt(10) == 0) {
                    same("wipe", real.wipe(), model.wipe());
                }
                break;
            case 2:
                same("fault", real.fault(), model.fault());
                break;
            case 3:
                if (random.nextInt(20) == 0) {
                    same("lay", real.lay(), model.lay());
                }
                break;
            case 4:
                same("half " + a + " " + side + " " + what, real.half(a, side, what), model.half(a, side, what));
                break;
            case 5:
                same("see " + a + " " + fact, real.see(a, fact), model.see(a, fact));
                break;
            case 6:
                same("note " + a + " " + fact, real.note(a, fact), model.note(a, fact));
                break;
            case 7:
                same("deed " + a + " " + facts, real.deed(a, facts), model.deed(a, facts));
                break;
            case 8: {
                int n = random.nextInt(3) == 0 ? arg(40) : 1;
                same("shifts " + n, real.shifts(n), model.shifts(n));
                break;
            }
            case 9:
                same("done " + a + " " + b, real.done(a, b), model.done(a, b));
                break;
            case 10:
                same("handed " + a + " " + b, real.handed(a, b), model.handed(a, b));
                break;
            default:
                same("best " + b, real.best(b), model.best(b));
                break;
        }
    }

    private void callLate(int kind) {
        int n = random.nextInt(2) == 0 ? arg(40) : arg(6);
        int a = arg(4);
        int facts = facts();
        int side = arg(1);
        int what = arg(2);
        int x = arg(9);
        int y = arg(9);
        int z = arg(9999);
        int long60 = arg(60);
        switch (kind) {
            case 13:
                same("knows " + n + " " + a + " " + side, real.knows(n, a, side), model.knows(n, a, side));
                break;
            case 14:
                same("could " + n + " " + facts, real.could(n, facts), model.could(n, facts));
                break;
            case 15:
                same("alike " + a, real.alike(a), model.alike(a));
                break;
            case 16:
                same("purse " + x + " " + y + " " + side, real.purse(x, y, side), model.purse(x, y, side));
                break;
            case 17:
                same("rests " + what, real.rests(what), model.rests(what));
                break;
            case 18:
                same("camps " + side, real.camps(side), model.camps(side));
                break;
            case 19:
                same("seen " + n + " " + facts, real.seen(n, facts), model.seen(n, facts));
                break;
            case 20:
                if (random.nextInt(4) == 0) {
                    same("forget", real.forget(), model.forget());
                }
                break;
            case 21:
                same("fits", real.fits(), model.fits());
                break;
            case 22:
                same("least", real.least(), model.least());
                break;
            case 23:
                same("month " + z + " " + long60 + " " + a + " " + side,
                        real.month(z, long60, a, side), model.month(z, long60, a, side));
                break;
            case 24:
                same("keep", real.keep(), model.keep());
                break;
            case 25:
                same("back", real.back(), model.back());
                break;
            default: {
                int which = arg(8);
                same("count " + which, real.count(which), model.count(which));
                break;
            }
        }
    }

    /** Of every PURSE that can be told; there is a REST in each, so the document's NONE never comes. */
    private static void everyPurse() {
        CHECK.about("every purse");
        for (int p = 0; p <= 20; p++) {
            for (int worth = 11; worth <= 99; worth++) {
                if (worth % 10 == 0) {
                    continue;
                }
                String text = "p1,1;u" + p + "," + worth / 10 + "," + worth % 10 + ";";
                HalfAsleep x = Check.laid(text);
                Model model = new Model();
                for (int k = 0; k < text.length(); k++) {
                    model.write(1, text.charAt(k));
                }
                model.lay();
                CHECK.holds("a REST by " + text, x.rests(0) >= 1);
                for (int what = 0; what <= 2; what++) {
                    CHECK.due("rests(" + what + ") by " + text, x.rests(what), model.rests(what));
                }
            }
        }
    }
}
