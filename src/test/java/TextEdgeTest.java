import java.util.List;

/** The edges of part 1 of the document: what a TEXT may hold, how much of it, and where its FAULT is. */
public final class TextEdgeTest {
    private static final int BAD = HalfAsleep.BAD, NO = HalfAsleep.NO, FULL = HalfAsleep.FULL, NONE = HalfAsleep.NONE;
    private static final Check CHECK = new Check();
    private static final Twins TWINS = new Twins(CHECK);

    /** An item that holds behind two PERSONS, and of each of its numbers the least and the greatest value. */
    private record Item(String sentence, char letter, int[] good, int[] least, int[] most) {
        String with(int at, String number) {
            StringBuilder text = new StringBuilder().append(letter);
            for (int k = 0; k < good.length; k++) {
                text.append(k == at ? number : "" + good[k]).append(k + 1 < good.length ? ',' : ';');
            }
            return text.toString();
        }

        String plain() {
            return with(-1, "");
        }
    }

    private static final String TWO = "p1,2;p3,4;";
    private static final List<Item> ITEMS = List.of(
            new Item("SKILLS (bits; 0 to 63 each)",
                    'p', new int[] {5, 6}, new int[] {0, 0}, new int[] {63, 63}),
            new Item("C STEPS in a SHIFT at most (1 to 8; 3 without)",
                    'c', new int[] {4}, new int[] {1}, new int[] {8}),
            new Item("N FACTS at most (0 to 8; 2 without)",
                    'n', new int[] {3}, new int[] {0}, new int[] {8}),
            new Item("half D (0 LEFT, 1 RIGHT) of PERSON I .. FACTS F (bits; 0 to 255)",
                    'k', new int[] {1, 0, 9}, new int[] {0, 0, 0}, new int[] {1, 1, 255}),
            new Item("P coin (0 to 20), a coin is worth G to LEFT halves, H to RIGHT ones (1 to 9 each)",
                    'u', new int[] {8, 2, 3}, new int[] {0, 1, 1}, new int[] {20, 9, 9}),
            // of unlike PERSONS: with two of them each can be but the one that the other is not
            new Item("half D of PERSON I is MARRIED to half E of J",
                    'm', new int[] {0, 0, 1, 0}, new int[] {0, 0, 1, 0}, new int[] {0, 1, 1, 1}));

    public static void main(String[] args) {
        mostBytes();
        writtenBytes();
        noItemAtAll();
        itemsOneBehindTheOther();
        letters();
        figuresOfNumbers();
        partedAndEnded();
        howManyNumbers();
        figuresOfSteps();
        valuesOfSteps();
        valuesOfNumbers();
        mostPersons();
        mostTrades();
        mostPairs();
        toldAhead();
        unlikePersons();
        lastOfStepsAndFacts();
        lastOfKnown();
        lastOfPurse();
        withoutItems();
        firstFault();
        cutTexts();
        readAgain();
        everyByteChanged();
        CHECK.end("TextEdgeTest");
    }

    private static void due(String call, int got, int want) {
        CHECK.due(call, got, want);
    }

    private static void faultAt(String text, int want) {
        due("fault of " + text, Check.faultOf(text), want);
    }

    private static HalfAsleep laid(String text) {
        return Check.laid(text);
    }

    /** A text of so many bytes, 8 at least, without FAULT, of one PERSON. */
    private static String ofBytes(int length) {
        String filled = "p1,2;" + "c1;".repeat((length - 8) / 3);
        int open = length - filled.length();
        return filled + (open == 3 ? "c6;" : open == 4 ? "c06;" : "c006;");
    }

    private static void mostBytes() {
        CHECK.about("A TEXT is bytes (300 at most)");
        for (int length = 290; length <= 300; length++) {
            String text = ofBytes(length);
            HalfAsleep x = new HalfAsleep();
            due("writing " + length + " bytes", Check.write(x, text), length);
            due("its fault", x.fault(), NONE);
            due("lay()", x.lay(), 1);
            due("its last item counts", x.count(7), 6);
            for (int n = 1; n <= 8; n++) {
                int bytes = n;
                if (length + n > 300) {
                    TWINS.unchanged("write(" + n + ") at " + length, y -> Check.write(y, text), y -> y.write(bytes, -1), FULL);
                } else {
                    HalfAsleep y = new HalfAsleep();
                    Check.write(y, text);
                    due("write(" + n + ") at " + length, y.write(n, -1), length + n);
                    due("the length", y.count(6), length + n);
                }
            }
        }
        TWINS.unchanged("write(9) at 300", y -> Check.write(y, ofBytes(300)), y -> y.write(9, -1), BAD);
        TWINS.unchanged("write(0) at 300", y -> Check.write(y, ofBytes(300)), y -> y.write(0, -1), BAD);
        HalfAsleep x = new HalfAsleep();
        Check.write(x, ofBytes(300));
        due("wipe() of 300", x.wipe(), 300);
        due("writing 300 again", Check.write(x, ofBytes(300)), 300);
        due("lay()", x.lay(), 1);
    }

    private static void writtenBytes() {
        CHECK.about("The lowest n bytes (1 to 8) of v, the highest of these first, come behind THE TEXT");
        String text = "p10,20;c";
        for (int n = 1; n <= 8; n++) {
            HalfAsleep x = new HalfAsleep();
            Check.write(x, text.substring(0, 8 - n));
            long v = n == 8 ? 0 : -1L << 8 * n;
            for (int k = 8 - n; k < 8; k++) {
                v |= (long) text.charAt(k) << 8 * (7 - k);
            }
            due("write(" + n + ")", x.write(n, v), 8);
            x.write(2, '5' << 8 | ';');
            due("lay()", x.lay(), 1);
            due("LEFT", x.half(0, 0, 0), 10);
            due("RIGHT", x.half(0, 1, 0), 20);
            due("C", x.count(7), 5);
        }
        HalfAsleep x = new HalfAsleep();
        due("write(8, Long.MIN_VALUE)", x.write(8, Long.MIN_VALUE), 8);
        due("write(1, Long.MAX_VALUE)", x.write(1, Long.MAX_VALUE), 9);
        for (int n : new int[] {0, -1, 9, 10, 256, 257, 264, -255, Integer.MAX_VALUE, Integer.MIN_VALUE}) {
            TWINS.unchanged("write(" + n + ", 'c')", y -> Check.write(y, "p1,2"), y -> y.write(n, ';'), BAD);
        }
    }

    private static void noItemAtAll() {
        CHECK.about("LAID is a TEXT without FAULT, of a PERSON at least (NO else; at first p1,2;j01;)");
        due("fault() of the empty text", new HalfAsleep().fault(), NONE);
        for (String text : List.of("", "c1;", "n1;j01;u1,1,1;", "p1,2", "p1,2;c9;", "c9;p1,2;", "p64,0;")) {
            TWINS.unchanged("lay() of '" + text + "'", y -> Check.write(y, text), y -> y.lay(), NO);
            TWINS.unchanged("lay() of '" + text + "' behind another", y -> {
                Check.write(y, "p7,7;p8,8;j0;k0,0,3;m0,0,1,0;");
                y.lay();
                y.see(1, 5);
                y.note(1, 5);
                y.keep();
                y.shifts(1);
                y.seen(0, 1);
                y.wipe();
                Check.write(y, text);
            }, y -> y.lay(), NO);
        }
        due("lay() of one PERSON alone", laid("p0,0;").count(0), 1);
        List<Integer> first = Twins.everything(new HalfAsleep());
        HalfAsleep told = laid("p1,2;j01;");
        told.wipe();
        CHECK.holds("at first all is as by p1,2;j01;", first.equals(Twins.everything(told)));
    }

    private static void itemsOneBehindTheOther() {
        CHECK.about("ITEMS one behind the other");
        for (int b = 0; b < 256; b++) {
            String sign = "" + (char) b;
            faultAt(sign, 0);
            faultAt("p1,2;" + sign, 5);
            faultAt("p1,2;" + sign + "c1;", 5);
            faultAt(sign + "p1,2;", 0);
        }
        StringBuilder all = new StringBuilder(TWO);
        for (Item item : ITEMS) {
            all.append(item.plain());
            faultAt(all.toString(), NONE);
            for (Item behind : ITEMS) {
                faultAt(all + behind.plain(), NONE);
            }
        }
    }

    private static void letters() {
        CHECK.about("each a letter");
        for (int b = 0; b < 256; b++) {
            char sign = (char) b;
            faultAt(TWO + sign + "1;", sign == 'j' || sign == 'c' || sign == 'n' ? NONE : 10);
            faultAt(TWO + sign + "1,1;", sign == 'p' ? NONE : 10);
            faultAt(TWO + sign + "1,1,1;", sign == 'k' || sign == 'u' ? NONE : 10);
            faultAt(TWO + sign + "1,1,0,1;", sign == 'm' ? NONE : 10);
        }
    }

    private static void figuresOfNumbers() {
        CHECK.about("numbers (one to three figures)");
        for (Item item : ITEMS) {
            for (int at = 0; at < item.good().length; at++) {
                int number = item.good()[at];
                faultAt(TWO + item.with(at, ""), 10);
                faultAt(TWO + item.with(at, "" + number), NONE);
                faultAt(TWO + item.with(at, "0" + number), NONE);
                faultAt(TWO + item.with(at, "00" + number), NONE);
                faultAt(TWO + item.with(at, "000" + number), 10);
                faultAt(TWO + item.with(at, "0000000" + number), 10);
                for (int b = 0; b < 256; b++) {
                    boolean figure = b >= '0' && b <= '9';
                    if (!figure && b != ';') {
                        faultAt(TWO + item.with(at, "" + (char) b), 10);
                        faultAt(TWO + item.with(at, number + "" + (char) b), 10);
                        faultAt(TWO + item.with(at, (char) b + "" + number), 10);
                    }
                }
            }
        }
        due("two figures count", laid("p09,10;").half(0, 1, 0), 10);
        due("three figures count", laid("p009,010;").half(0, 1, 0), 10);
        due("three figures count, k", laid("p1,1;k000,001,255;").half(0, 1, 1), 255);
    }

    private static void partedAndEnded() {
        CHECK.about("parted by , and ; (behind the last one, too)");
        for (Item item : ITEMS) {
            String text = item.plain();
            for (int at = 0; at < text.length(); at++) {
                char sign = text.charAt(at);
                for (int b = 0; (sign == ',' || sign == ';') && b < 256; b++) {
                    String changed = text.substring(0, at) + (char) b + text.substring(at + 1);
                    faultAt(TWO + changed, b == sign ? NONE : 10);
                    faultAt(TWO + changed + "c1;", b == sign ? NONE : 10);
                }
                if (sign == ',' || sign == ';') {
                    String without = text.substring(0, at) + text.substring(at + 1);
                    faultAt(TWO + without, 10);
                    faultAt(TWO + without + "c1;", 10);
                    faultAt(TWO + text.substring(0, at) + sign + text.substring(at), sign == ';' ? 10 + text.length() : 10);
                }
            }
        }
        faultAt("j0", 0);
        faultAt("j0c1;", 0);
        faultAt("j0,", 0);
    }

    private static void howManyNumbers() {
        CHECK.about("pA,B jS cC nN kI,D,F mI,D,J,E uP,G,H");
        String letters = "pjcnkmu";
        int[] wanted = {2, 1, 1, 1, 3, 4, 3};
        for (int k = 0; k < letters.length(); k++) {
            for (int numbers = 0; numbers <= 6; numbers++) {
                // m wants unlike PERSONS: 1, 1, 0, 1; the others take these, too
                String row = "1,1,0,1,1,1".substring(0, Math.max(0, 2 * numbers - 1));
                String item = letters.charAt(k) == 'u' ? row.replace('0', '1') : row;
                faultAt(TWO + letters.charAt(k) + item + ";", numbers == wanted[k] ? NONE : 10);
            }
        }
    }

    private static void figuresOfSteps() {
        CHECK.about("S is one to eight figures instead");
        for (int figures = 0; figures <= 12; figures++) {
            boolean right = figures >= 1 && figures <= 8;
            faultAt("p1,2;j" + "5".repeat(figures) + ";", right ? NONE : 5);
            faultAt("j" + "0".repeat(figures) + ";c1;", right ? NONE : 0);
            if (right) {
                HalfAsleep x = laid("p1,0;c1;j" + "0".repeat(figures) + ";");
                due("all its STEPS are done by LEFT, one a SHIFT", x.done(0, 0), 2 * figures - 1);
                due("and a last one that LEFT can't",
                        laid("p1,2;c8;j" + "0".repeat(figures - 1) + "1;").done(0, 0), 2);
            }
        }
    }

    private static void valuesOfSteps() {
        CHECK.about("whose STEPS need the SKILLS S (0 to 5 each)");
        for (int length = 1; length <= 8; length++) {
            for (int at = 0; at < length; at++) {
                for (int b = 0; b < 256; b++) {
                    String steps = "0".repeat(at) + (char) b + "0".repeat(length - 1 - at);
                    boolean skill = b >= '0' && b <= '5';
                    // by a ; S ends, and what stands behind it is the fault, if S has a figure
                    boolean early = b == ';' && at > 0;
                    faultAt("p1,2;j" + steps + ";", skill ? NONE : early ? 5 + 1 + at + 1 : 5);
                }
            }
        }
        for (int skill = 0; skill <= 5; skill++) {
            HalfAsleep x = laid("p" + (1 << skill) + "," + (63 - (1 << skill)) + ";j" + skill + ";");
            due("LEFT has it, SKILL " + skill, x.done(0, 0), 1);
            due("RIGHT has all but it", laid("p0," + (63 - (1 << skill)) + ";j" + skill + ";").done(0, 0), NONE);
        }
    }

    private static void valuesOfNumbers() {
        for (Item item : ITEMS) {
            CHECK.about(item.sentence());
            for (int at = 0; at < item.good().length; at++) {
                for (int value = 0; value <= 999; value++) {
                    boolean right = value >= item.least()[at] && value <= item.most()[at];
                    faultAt(TWO + item.with(at, "" + value), right ? NONE : 10);
                    faultAt(TWO + item.with(at, String.format("%03d", value)), right ? NONE : 10);
                }
            }
        }
        CHECK.about("the least and the greatest of each count as told");
        HalfAsleep x = laid("p0,63;p63,0;k0,0,0;k0,1,255;k1,0,255;k1,1,0;u20,9,9;");
        due("no SKILLS", x.half(0, 0, 0), 0);
        due("all SKILLS", x.half(0, 1, 0), 63);
        due("all SKILLS of LEFT", x.half(1, 0, 0), 63);
        due("no FACTS", x.half(0, 0, 1), 0);
        due("all FACTS", x.half(0, 1, 1), 255);
        due("all FACTS of LEFT", x.half(1, 0, 1), 255);
        due("20 coin", x.purse(9, 9, 0), 82);
        due("C 1", laid("p1,1;c1;").count(7), 1);
        due("C 8", laid("p1,1;c8;").count(7), 8);
        due("N 0", laid("p1,1;n0;").count(8), 0);
        due("N 8", laid("p1,1;n8;").count(8), 8);
        due("no coin", laid("p1,1;u0,1,1;").purse(0, 0, 0), 0);
    }

    private static void mostPersons() {
        CHECK.about("a PERSON .. 5 at most, 0, 1, ..");
        for (int persons = 1; persons <= 7; persons++) {
            StringBuilder text = new StringBuilder();
            for (int i = 0; i < persons; i++) {
                text.append("p").append(i + 1).append(",").append(i + 2).append(";");
            }
            faultAt(text.toString(), persons <= 5 ? NONE : 25);
            faultAt(text + "c9;", persons <= 5 ? 5 * persons : 25);
            if (persons > 5) {
                TWINS.unchanged("lay() of " + persons, y -> Check.write(y, text.toString()), y -> y.lay(), NO);
                continue;
            }
            HalfAsleep x = laid(text.toString());
            due("PERSONS", x.count(0), persons);
            for (int i = 0; i < persons; i++) {
                due("LEFT of " + i, x.half(i, 0, 0), i + 1);
                due("RIGHT of " + i, x.half(i, 1, 0), i + 2);
            }
            due("one more", x.half(persons, 0, 0), BAD);
        }
    }

    private static void mostTrades() {
        CHECK.about("a TRADE .. 4 at most, 0, 1, ..");
        for (int trades = 0; trades <= 6; trades++) {
            StringBuilder text = new StringBuilder("p1,0;c1;");
            for (int j = 0; j < trades; j++) {
                text.append("j").append("0".repeat(j + 1)).append(";");
            }
            faultAt(text.toString(), trades <= 4 ? NONE : 8 + 3 + 4 + 5 + 6);
            if (trades > 4) {
                TWINS.unchanged("lay() of " + trades, y -> Check.write(y, text.toString()), y -> y.lay(), NO);
                continue;
            }
            HalfAsleep x = laid(text.toString());
            due("TRADES", x.count(1), trades);
            for (int j = 0; j < trades; j++) {
                due("done of " + j, x.done(0, j), 2 * j + 1);
            }
            due("done of one more", x.done(0, trades), BAD);
            due("handed of one more", x.handed(0, trades), BAD);
            due("best of one more", x.best(trades), BAD);
        }
        faultAt("j0;".repeat(4) + "j6;", 12);
        faultAt("j0;".repeat(4) + "p1,1;j0;", 17);
    }

    private static void mostPairs() {
        CHECK.about("MARRIED .. 8 at most");
        for (int pairs = 0; pairs <= 10; pairs++) {
            String text = TWO + "m0,0,1,0;".repeat(pairs);
            faultAt(text, pairs <= 8 ? NONE : 10 + 8 * 9);
            if (pairs <= 8) {
                due("pairs", laid(text).count(2), pairs);
                due("none PARTS", laid(text).camps(0), 0);
            } else {
                TWINS.unchanged("lay() of " + pairs, y -> Check.write(y, text), y -> y.lay(), NO);
            }
        }
        String unlike = "p1,1;".repeat(5) + "m0,0,1,0;m0,1,1,1;m0,0,2,1;m1,0,2,1;m3,0,4,1;m4,1,3,0;m2,1,4,0;m0,1,4,1;";
        faultAt(unlike, NONE);
        faultAt(unlike + "m0,0,4,0;", 25 + 72);
        faultAt(unlike + "c1;m0,0,4,0;", 25 + 72 + 3);
        due("unlike pairs", laid(unlike).count(2), 8);
    }

    private static void toldAhead() {
        CHECK.about("PERSON I (told ahead); half E of J (told ahead, unlike PERSONS)");
        faultAt("k0,0,1;", 0);
        faultAt("k0,0,1;p1,1;", 0);
        faultAt("c1;k0,0,1;p1,1;", 3);
        for (int persons = 1; persons <= 5; persons++) {
            String people = "p1,1;".repeat(persons);
            for (int i = 0; i <= 6; i++) {
                faultAt(people + "k" + i + ",0,1;", i < persons ? NONE : people.length());
                faultAt(people + "k" + i + ",1,1;" + "p1,1;", persons == 5 && i < 5 ? people.length() + 7
                        : i < persons ? NONE : people.length());
                for (int j = 0; j <= 6; j++) {
                    boolean right = i < persons && j < persons && i != j;
                    faultAt(people + "m" + i + ",0," + j + ",1;", right ? NONE : people.length());
                }
            }
        }
        faultAt("p1,1;m0,0,1,0;p1,1;", 5);
        faultAt("p1,1;m1,0,0,0;p1,1;", 5);
        HalfAsleep x = laid("p1,1;k0,0,7;p2,2;k1,1,8;k0,1,9;");
        due("told between PERSONS", x.half(0, 0, 1), 7);
        due("told of the second", x.half(1, 1, 1), 8);
        due("told of the first behind the second", x.half(0, 1, 1), 9);
        due("none told", x.half(1, 0, 1), 0);
    }

    private static void unlikePersons() {
        CHECK.about("unlike PERSONS");
        String five = "p1,1;".repeat(5);
        for (int i = 0; i < 5; i++) {
            for (int j = 0; j < 5; j++) {
                for (int halves = 0; halves < 4; halves++) {
                    String pair = "m" + i + "," + halves / 2 + "," + j + "," + halves % 2 + ";";
                    faultAt(five + pair, i == j ? 25 : NONE);
                }
            }
        }
    }

    private static void lastOfStepsAndFacts() {
        CHECK.about("of several such the last one counts (C, N)");
        HalfAsleep x = laid("c8;n8;p1,1;c1;n0;");
        due("C", x.count(7), 1);
        due("N", x.count(8), 0);
        HalfAsleep y = laid("c1;n0;c5;n5;p1,1;c8;n8;");
        due("C", y.count(7), 8);
        due("N", y.count(8), 8);
        faultAt("c3;c9;c3;", 3);
        faultAt("n3;n9;n3;", 3);
        HalfAsleep steps = laid("p1,0;c8;c1;j000;");
        due("done by the last C", steps.done(0, 0), 5);
        HalfAsleep told = laid("p1,1;n0;n3;k0,0,255;");
        told.shifts(1);
        due("told by the last N", told.half(0, 1, 1), 7);
    }

    private static void lastOfKnown() {
        CHECK.about("(none without; the last one of each)");
        HalfAsleep x = laid(TWO + "k0,0,255;k0,1,1;k1,0,2;k0,0,0;k1,0,4;k1,0,8;");
        due("LEFT of 0: the last, though it is none", x.half(0, 0, 1), 0);
        due("RIGHT of 0: the only one", x.half(0, 1, 1), 1);
        due("LEFT of 1: the last of three", x.half(1, 0, 1), 8);
        due("RIGHT of 1: none", x.half(1, 1, 1), 0);
        faultAt(TWO + "k0,0,256;k0,0,1;", 10);
    }

    private static void lastOfPurse() {
        CHECK.about("of several such the last one counts (P, G, H)");
        HalfAsleep x = laid("u20,9,9;p1,1;u0,9,9;u3,2,1;");
        due("LEFT by 1, 0", x.purse(1, 0, 0), 3);
        due("RIGHT by 0, 1", x.purse(0, 1, 1), 2);
        due("all of it", x.purse(3, 0, 0), 6);
        due("more", x.purse(4, 0, 0), 0);
        faultAt("u21,1,1;u1,1,1;", 0);
    }

    private static void withoutItems() {
        CHECK.about("3 without; 2 without; none without; 9, 1, 1 without");
        HalfAsleep x = laid("p1,1;c8;n8;u20,9,9;k0,0,255;j0;");
        x.wipe();
        Check.write(x, "p7,7;");
        due("lay()", x.lay(), 1);
        due("C", x.count(7), 3);
        due("N", x.count(8), 2);
        due("TRADES", x.count(1), 0);
        due("MARRIED pairs", x.count(2), 0);
        due("LEFT knows", x.half(0, 0, 1), 0);
        due("RIGHT knows", x.half(0, 1, 1), 0);
        due("9 coin, G 1", x.purse(9, 0, 0), 9);
        due("9 coin, H 1", x.purse(0, 9, 1), 9);
        due("no tenth coin", x.purse(9, 1, 0), 0);
        due("no tenth coin for RIGHT", x.purse(1, 9, 1), 0);
    }

    private static void firstFault() {
        CHECK.about("FAULT: the place (from 0 on) of the first byte of the first ITEM that is not so");
        String[] items = {"p1,2;", "p3,4;", "j01;", "c4;", "n3;", "k1,0,9;", "m0,0,1,1;", "u8,2,3;"};
        String[] wrong = {"p64,2;", "p3,64;", "j06;", "c9;", "n9;", "k2,0,9;", "m0,0,0,1;", "u8,2,0;"};
        StringBuilder good = new StringBuilder();
        for (int k = 2; k < items.length; k++) {
            StringBuilder text = new StringBuilder();
            int want = NONE;
            for (int at = 0; at < items.length; at++) {
                want = at == k ? text.length() : want;
                text.append(at == k ? wrong[at] : items[at]);
            }
            faultAt(text.toString(), want);
            // a second fault behind the first changes nothing
            faultAt(text + "x", want);
            faultAt(text + "p64,64;", want);
        }
        faultAt(wrong[0] + items[1], 0);
        faultAt(items[0] + wrong[1], 5);
        for (String item : items) {
            faultAt(good + "x", good.length());
            good.append(item);
        }
        faultAt(good.toString(), NONE);
        // the last place that there is
        String whole = "p1,2;" + "c1;".repeat(98);
        due("a text of 299 bytes", whole.length(), 299);
        faultAt(whole, NONE);
        faultAt(whole + "c", 299);
        faultAt(whole.substring(0, 296) + "c1;;", 299);
        faultAt(whole.substring(0, 296) + "c001", 296);
        faultAt(whole.substring(0, 296) + "c01;", NONE);
    }

    private static void cutTexts() {
        CHECK.about("a text that ends within an ITEM");
        String[] items = {"p12,34;", "p5,63;", "j012345;", "c4;", "n003;", "k1,0,255;", "m0,0,1,1;", "u18,2,3;"};
        StringBuilder ahead = new StringBuilder();
        for (String item : items) {
            for (int length = 1; length < item.length(); length++) {
                faultAt(ahead + item.substring(0, length), ahead.length());
            }
            ahead.append(item);
            faultAt(ahead.toString(), NONE);
        }
    }

    /** A reading that ends at a fault leaves nothing behind for the next one. */
    private static void readAgain() {
        CHECK.about("a text read within an ITEM, then whole; or wiped, then another one");
        String text = "p12,34;p5,63;j012345;c4;n3;k1,0,255;k0,1,3;m0,0,1,1;j5;u18,2,3;";
        String other = "p1,1;p2,2;j0;";
        List<Integer> due = Twins.everything(laid(text));
        List<Integer> dueOther = Twins.everything(laid(other));
        for (int length = 1; length <= text.length(); length++) {
            HalfAsleep whole = new HalfAsleep();
            Check.write(whole, text.substring(0, length));
            whole.fault();
            whole.lay();
            Check.write(whole, text.substring(length));
            due("lay() of the whole", whole.lay(), 2);
            CHECK.holds("all is as by the whole alone, " + length, Twins.everything(whole).equals(due));
            HalfAsleep wiped = new HalfAsleep();
            Check.write(wiped, text.substring(0, length));
            wiped.fault();
            wiped.lay();
            wiped.wipe();
            Check.write(wiped, other);
            due("lay() of the other", wiped.lay(), 2);
            CHECK.holds("all is as by the other alone, " + length, Twins.everything(wiped).equals(dueOther));
        }
    }

    /** Each byte in turn is another, is gone, or has another ahead of it: as the second writing of the document has it. */
    private static void everyByteChanged() {
        CHECK.about("every byte of a text changed");
        String text = TWO + "p0,63;j0512;c4;n3;k1,0,9;m0,0,1,1;u8,2,3;";
        for (int at = 0; at < text.length(); at++) {
            String ahead = text.substring(0, at);
            String behind = text.substring(at + 1);
            asModel(ahead + behind);
            for (int b = 0; b < 256; b++) {
                asModel(ahead + (char) b + behind);
                asModel(ahead + (char) b + text.substring(at));
            }
        }
    }

    private static void asModel(String text) {
        HalfAsleep x = new HalfAsleep();
        Check.write(x, text);
        Model model = new Model();
        for (int k = 0; k < text.length(); k++) {
            model.write(1, text.charAt(k));
        }
        due("fault of " + text, x.fault(), model.fault());
        due("lay of " + text, x.lay(), model.lay());
    }
}
