import java.math.BigInteger;

/** The edges of the document's Terms, a method for each sentence that names one; all answers are worked out by hand. */
public final class TermsEdgeTest {
    private static final int BAD = HalfAsleep.BAD, NO = HalfAsleep.NO, FULL = HalfAsleep.FULL, NONE = HalfAsleep.NONE;
    private static final Check CHECK = new Check();
    private static final String FIVE = "p1,1;".repeat(5);

    public static void main(String[] args) {
        evenAndOddShifts();
        lastShift();
        seenFacts();
        notesOfKnownFacts();
        deedsThatNeedAll();
        lowestFactsTold();
        toldAsItWasKnown();
        notesBehindTheTelling();
        laidAnew();
        stepsInAShift();
        longestTrade();
        noneDone();
        fewestHanded();
        bestOfSeveral();
        knownBehindShifts();
        couldBehindShifts();
        alikeEdges();
        purseTakenWhole();
        purseCut();
        restsEdges();
        campsEdges();
        tenDeeds();
        deedsAsLaid();
        fitsEdges();
        leastEdges();
        draws();
        monthNotes();
        monthFromLastShift();
        keptEdges();
        forgetEdges();
        last512();
        CHECK.end("TermsEdgeTest");
    }

    private static void due(String call, int got, int want) {
        CHECK.due(call, got, want);
    }

    private static HalfAsleep laid(String text) {
        return Check.laid(text);
    }

    /** From one SHIFT to another one in as few calls as can be: 250 from 0 to 9999. */
    private static void go(HalfAsleep x, int from, int to) {
        for (int at = from; at < to; at += 40) {
            int by = Math.min(40, to - at);
            int answer = x.shifts(by);
            if (answer != at + by) {
                due("shifts(" + by + ") at " + at, answer, at + by);
                return;
            }
        }
    }

    private static HalfAsleep atShift(String text, int shift) {
        HalfAsleep x = laid(text);
        go(x, 0, shift);
        return x;
    }

    private static void evenAndOddShifts() {
        CHECK.about("in even ones LEFT halves are awake (it is night), in odd ones RIGHT ones");
        for (int shift : new int[] {0, 1, 2, 3, 39, 40, 41, 254, 255, 256, 9998, 9999}) {
            HalfAsleep x = atShift("p1,1;n0;k0,0,1;k0,1,2;", shift);
            due("the SHIFT", x.count(3), shift);
            int awake = shift % 2;
            due("the half that is awake sees", x.see(0, 7), awake == 0 ? 129 : 130);
            due("LEFT", x.half(0, 0, 1), awake == 0 ? 129 : 1);
            due("RIGHT", x.half(0, 1, 1), awake == 0 ? 2 : 130);
            due("a DEED that LEFT alone can", x.deed(0, 1), 1 - awake);
            due("a DEED that RIGHT alone can", x.deed(0, 2), awake);
            due("a NOTE of what LEFT knows", x.note(0, 0), awake == 0 ? 1 : NO);
            due("a NOTE of what both could hang", x.note(0, 7), awake == 0 ? 129 : 128);
            due("hangs for LEFT", x.half(0, 0, 2), awake == 0 ? 0 : 128);
            due("hangs for RIGHT", x.half(0, 1, 2), awake == 0 ? 129 : 0);
        }
    }

    private static void lastShift() {
        CHECK.about("n SHIFTS (1 to 40) END: which it is. NO: above 9999");
        Twins twins = new Twins(CHECK);
        int[] from = {9958, 9959, 9960, 9961, 9997, 9998, 9999};
        for (int shift : from) {
            for (int n : new int[] {1, 2, 3, 38, 39, 40}) {
                int by = n;
                if (shift + n <= 9999) {
                    HalfAsleep x = atShift("p1,1;", shift);
                    due("shifts(" + n + ") at " + shift, x.shifts(n), shift + n);
                    due("the SHIFT", x.count(3), shift + n);
                } else {
                    twins.unchanged("shifts(" + n + ") at " + shift, x -> richAtShift(x, shift), x -> x.shifts(by), NO);
                }
            }
            twins.unchanged("shifts(0) at " + shift, x -> richAtShift(x, shift), x -> x.shifts(0), BAD);
            twins.unchanged("shifts(41) at " + shift, x -> richAtShift(x, shift), x -> x.shifts(41), BAD);
        }
    }

    private static void richAtShift(HalfAsleep x, int shift) {
        Check.write(x, "p1,2;j01;n0;");
        x.lay();
        x.keep();
        go(x, 0, shift);
        x.see(0, 3);
        x.note(0, 3);
        x.see(0, 5);
    }

    private static void seenFacts() {
        CHECK.about("A FACT is SEEN by a PERSON: his half that is awake knows it");
        for (int fact = 0; fact <= 7; fact++) {
            HalfAsleep x = laid(FIVE + "n0;");
            due("see(0, " + fact + ")", x.see(0, fact), 1 << fact);
            due("see(4, " + fact + ")", x.see(4, fact), 1 << fact);
            due("again", x.see(4, fact), 1 << fact);
            due("RIGHT of 4", x.half(4, 1, 1), 0);
            due("LEFT of 3", x.half(3, 0, 1), 0);
        }
        HalfAsleep x = laid(FIVE + "k2,0,255;");
        due("all are known already", x.see(2, 0), 255);
        HalfAsleep y = laid("p1,1;");
        for (int fact = 0; fact <= 7; fact++) {
            due("one more", y.see(0, fact), (2 << fact) - 1);
        }
    }

    private static void notesOfKnownFacts() {
        CHECK.about("A NOTE: the half that is awake hangs a FACT that it knows at the neck");
        for (int fact = 0; fact <= 7; fact++) {
            int bit = 1 << fact;
            HalfAsleep x = laid(FIVE + "n0;k4,0," + bit + ";k3,1," + bit + ";k2,0," + (255 - bit) + ";");
            due("known", x.note(4, fact), bit);
            due("again", x.note(4, fact), bit);
            due("known by the sleeper alone", x.note(3, fact), NO);
            due("all others known", x.note(2, fact), NO);
            due("nothing hangs for 3", x.half(3, 1, 2), 0);
            due("nothing hangs for 2", x.half(2, 1, 2), 0);
            due("seen", x.see(3, fact), bit);
            due("then it can be hung", x.note(3, fact), bit);
        }
        HalfAsleep all = laid("p1,1;n0;k0,0,255;");
        for (int fact = 7; fact >= 0; fact--) {
            due("all hang at last", all.note(0, fact), 256 - (1 << fact));
        }
        all.shifts(1);
        due("RIGHT knows all", all.half(0, 1, 1), 255);
        due("nothing hangs", all.half(0, 1, 2), 0);
        due("nor for LEFT", all.half(0, 0, 2), 0);
    }

    private static void deedsThatNeedAll() {
        CHECK.about("A DEED .. is done by a PERSON, if his half that is awake knows all of them");
        HalfAsleep nothing = laid("p1,1;k0,1,255;");
        due("needs nothing, known is nothing", nothing.deed(0, 0), 1);
        due("needs all, known is nothing", nothing.deed(0, 255), 0);
        for (int fact = 0; fact <= 7; fact++) {
            int bit = 1 << fact;
            HalfAsleep x = laid("p1,1;k0,0," + (255 - bit) + ";");
            due("all but one, that one", x.deed(0, bit), 0);
            due("all but one, all", x.deed(0, 255), 0);
            due("all but one, the others", x.deed(0, 255 - bit), 1);
            x.see(0, fact);
            due("all", x.deed(0, 255), 1);
            due("a DEED changes nothing", x.half(0, 1, 1), 0);
        }
    }

    private static int lowestOf(int facts, int most) {
        int told = 0;
        int bit = 1;
        for (int left = most; left > 0 && bit <= 128; bit *= 2) {
            if ((facts & bit) != 0) {
                told += bit;
                left--;
            }
        }
        return told;
    }

    private static void lowestFactsTold() {
        CHECK.about("tells the other one the N lowest FACTS (all, if fewer) that it knew and the other one did not");
        for (int most = 0; most <= 8; most++) {
            for (int facts = 0; facts <= 255; facts++) {
                HalfAsleep x = laid("p1,1;p1,1;n" + most + ";k0,0," + facts + ";k1,1," + facts + ";");
                x.shifts(1);
                due("told to RIGHT by N " + most + " of " + facts, x.half(0, 1, 1), lowestOf(facts, most));
                due("told to LEFT by N " + most + " of " + facts, x.half(1, 0, 1), lowestOf(facts, most));
                due("LEFT knows still", x.half(0, 0, 1), facts);
                due("RIGHT knows still", x.half(1, 1, 1), facts);
            }
        }
        HalfAsleep none = laid("p1,1;n0;k0,0,255;");
        none.shifts(40);
        due("by N 0 nothing is told ever", none.half(0, 1, 1), 0);
        HalfAsleep one = laid("p1,1;n1;k0,0,255;");
        one.shifts(7);
        due("by N 1 seven in seven", one.half(0, 1, 1), 127);
        one.shifts(1);
        due("and the eighth", one.half(0, 1, 1), 255);
        one.shifts(1);
        due("then no more", one.half(0, 1, 1), 255);
    }

    private static void toldAsItWasKnown() {
        CHECK.about("that it knew and the other one did not");
        HalfAsleep x = laid("p1,1;n1;k0,0,14;k0,1,7;");
        x.shifts(1);
        // LEFT has 8 that RIGHT has not, RIGHT has 1: both know all
        due("LEFT", x.half(0, 0, 1), 15);
        due("RIGHT", x.half(0, 1, 1), 15);
        HalfAsleep shared = laid("p1,1;n2;k0,0,63;k0,1,15;");
        shared.shifts(1);
        due("what both know is not told again", shared.half(0, 1, 1), 63);
        HalfAsleep each = laid("p1,1;n1;k0,0,1;k0,1,2;");
        each.shifts(1);
        due("at once: LEFT", each.half(0, 0, 1), 3);
        due("at once: RIGHT", each.half(0, 1, 1), 3);
        HalfAsleep others = laid(FIVE + "n8;k4,0,255;");
        others.shifts(1);
        due("each his own half alone", others.half(3, 1, 1), 0);
        due("the fifth, too", others.half(4, 1, 1), 255);
    }

    private static void notesBehindTheTelling() {
        CHECK.about("then the half that wakes knows what NOTES say, too, they are gone, and the next SHIFT begins");
        HalfAsleep x = laid("p1,1;n1;k0,0,7;");
        x.note(0, 0);
        x.shifts(1);
        due("FACT 0 is told though a NOTE says it", x.half(0, 1, 1), 1);
        HalfAsleep y = laid("p1,1;n1;k0,0,7;");
        y.note(0, 2);
        y.shifts(1);
        due("FACT 0 is told, a NOTE says 2", y.half(0, 1, 1), 5);
        due("the NOTE is gone for RIGHT", y.half(0, 1, 2), 0);
        due("and for LEFT", y.half(0, 0, 2), 0);
        HalfAsleep gone = laid("p1,1;n0;k0,0,3;");
        gone.note(0, 1);
        due("n SHIFTS: NOTES at the first END alone", gone.shifts(2), 2);
        due("RIGHT", gone.half(0, 1, 1), 2);
        due("a NOTE by night again", gone.note(0, 0), 1);
        gone.shifts(1);
        due("RIGHT", gone.half(0, 1, 1), 3);
        HalfAsleep by = laid("p1,1;n0;k0,1,4;");
        by.shifts(1);
        by.note(0, 2);
        by.shifts(1);
        due("by day LEFT is the one that wakes", by.half(0, 0, 1), 4);
    }

    private static void laidAnew() {
        CHECK.about("SHIFT 0, no NOTES, no SEEN DEEDS, nothing KEPT; THE TEXT stays");
        HalfAsleep x = laid("p1,1;p1,1;k0,0,1;");
        x.note(0, 0);
        x.see(1, 3);
        x.keep();
        x.keep();
        x.shifts(40);
        x.see(1, 4);
        x.note(1, 4);
        x.note(0, 0);
        for (int k = 0; k < 10; k++) {
            x.seen(0, 255);
        }
        due("lay()", x.lay(), 2);
        HalfAsleep fresh = laid("p1,1;p1,1;k0,0,1;");
        CHECK.holds("all is as laid at first", Twins.everything(x).equals(Twins.everything(fresh)));
        due("nothing KEPT", x.back(), NO);
        due("DEEDS from 1 on", x.seen(0, 0), 1);
        due("KEPT from 1 on", x.keep(), 1);
        due("lay() of the same text again", x.lay(), 2);
        due("and again", x.lay(), 2);
        due("bytes", x.count(6), 17);
    }

    private static void stepsInAShift() {
        CHECK.about("does the next STEPS, one behind the other, as long as it has their SKILLS, C at most");
        for (int most = 1; most <= 8; most++) {
            for (int steps = 1; steps <= 8; steps++) {
                HalfAsleep x = laid("p1,1;p1,0;p0,1;c" + most + ";j" + "0".repeat(steps) + ";");
                int own = (steps + most - 1) / most;
                due("both can, C " + most + ", STEPS " + steps, x.done(0, 0), own);
                due("LEFT alone", x.done(1, 0), 2 * own - 1);
                due("RIGHT alone", x.done(2, 0), 2 * own);
                x.shifts(1);
                due("both can, by day", x.done(0, 0), own);
                due("LEFT alone, by day", x.done(1, 0), 2 * own);
                due("RIGHT alone, by day", x.done(2, 0), 2 * own - 1);
            }
        }
        HalfAsleep x = laid("p1,2;c3;j00100;j0001;j1110;");
        due("a half stops ahead of a STEP that it can't", x.done(0, 0), 3);
        due("three, then the other half", x.done(0, 1), 2);
        due("none in the first SHIFT", x.done(0, 2), 3);
    }

    private static void longestTrade() {
        CHECK.about("DONE: in how many SHIFTS (this one, too)");
        HalfAsleep x = laid("p0,1;p1,0;c1;j00000000;j0;");
        due("the longest that there is", x.done(0, 0), 16);
        due("one SHIFT less", x.done(1, 0), 15);
        due("this one alone", x.done(1, 1), 1);
        due("the next one", x.done(0, 1), 2);
        HalfAsleep late = atShift("p0,1;p1,0;c1;j00000000;j0;", 9999);
        due("from 9999 on LEFT needs most", late.done(1, 0), 16);
        due("from 9999 on", late.done(0, 0), 15);
        due("from 9999 on, one STEP", late.done(0, 1), 1);
    }

    private static void noneDone() {
        CHECK.about("none (for a STEP neither half has the SKILL)");
        for (int skill = 0; skill <= 5; skill++) {
            int without = 63 - (1 << skill);
            int other = (skill + 1) % 6;
            String others = ("" + other).repeat(7);
            HalfAsleep x = laid("p" + without + "," + without + ";p" + without + ",63;p63," + without + ";j" + skill + others
                    + ";j" + others + skill + ";j" + skill + ";j" + others + ";");
            for (int j = 0; j < 3; j++) {
                due("done, SKILL " + skill, x.done(0, j), NONE);
                due("handed, SKILL " + skill, x.handed(0, j), NONE);
                CHECK.holds("done, if one half has it", x.done(1, j) > 0 && x.done(2, j) > 0);
                CHECK.holds("handed, if one half has it", x.handed(1, j) >= 0 && x.handed(2, j) >= 0);
            }
            due("done without that STEP", x.done(0, 3), 3);
            due("handed without that STEP", x.handed(0, 3), 0);
        }
    }

    private static void fewestHanded() {
        CHECK.about("HANDED: .. the fewest times that one is given to another half than the one ahead of it");
        for (int steps = 1; steps <= 8; steps++) {
            String turns = "01010101".substring(0, steps);
            HalfAsleep x = laid("p1,2;p2,1;p3,2;p2,3;j" + turns + ";");
            due("in turns, the first is given by none: " + steps, x.handed(0, 0), steps - 1);
            due("in turns from RIGHT: " + steps, x.handed(1, 0), steps - 1);
            due("LEFT alone can", x.handed(2, 0), 0);
            due("RIGHT alone can", x.handed(3, 0), 0);
        }
        HalfAsleep late = laid("p7,11;j0123;j3012;j2013;j23;");
        due("LEFT, then RIGHT for the last", late.handed(0, 0), 1);
        due("RIGHT first, then LEFT", late.handed(0, 1), 1);
        due("LEFT first, then RIGHT", late.handed(0, 2), 1);
        due("two STEPS", late.handed(0, 3), 1);
    }

    private static void bestOfSeveral() {
        CHECK.about("BEST: the PERSON who has DONE a TRADE soonest, the lowest; none");
        HalfAsleep all = laid(FIVE + "j0;j1;");
        due("all alike: the lowest", all.best(0), 0);
        due("none of five", all.best(1), NONE);
        HalfAsleep last = laid("p0,0;p0,0;p0,0;p0,0;p0,1;j0;");
        due("the last alone can", last.best(0), 4);
        HalfAsleep soon = laid("p0,1;p0,1;p0,1;p1,0;p1,1;j0;");
        due("the lowest of the soonest", soon.best(0), 3);
        soon.shifts(1);
        due("by day", soon.best(0), 0);
        due("one PERSON who can't", laid("p1,0;j1;").best(0), NONE);
        due("one PERSON who can", laid("p1,0;j0;").best(0), 0);
    }

    private static void knownBehindShifts() {
        CHECK.about("KNOWS: what a half of a PERSON knows (bits) behind n (0 to 40) SHIFTS");
        HalfAsleep x = laid(FIVE + "n1;k4,0,255;k0,0,1;");
        int[] known = {0, 1, 3, 7, 15, 31, 63, 127, 255};
        for (int n = 0; n <= 40; n++) {
            due("RIGHT of 4 behind " + n, x.knows(n, 4, 1), known[Math.min(n, 8)]);
            due("LEFT of 4 behind " + n, x.knows(n, 4, 0), 255);
            due("RIGHT of 0 behind " + n, x.knows(n, 0, 1), n == 0 ? 0 : 1);
        }
        for (int n : new int[] {-1, 41}) {
            due("knows(" + n + ")", x.knows(n, 4, 1), BAD);
        }
        due("nothing else is done", x.half(4, 1, 1), 0);
        HalfAsleep note = laid("p1,1;n0;k0,0,128;");
        note.note(0, 7);
        due("NOTES, behind 0", note.knows(0, 0, 1), 0);
        due("NOTES, behind 1", note.knows(1, 0, 1), 128);
        due("NOTES, behind 40", note.knows(40, 0, 1), 128);
    }

    private static void couldBehindShifts() {
        CHECK.about("COULD: the PERSONS (bits) whose half that is awake behind n such SHIFTS knows all of FACTS");
        HalfAsleep x = laid(FIVE + "n0;k0,0,255;k4,1,255;");
        for (int n = 0; n <= 40; n++) {
            due("all FACTS behind " + n, x.could(n, 255), n % 2 == 0 ? 1 : 16);
            due("no FACTS behind " + n, x.could(n, 0), 31);
        }
        due("could(-1, 0)", x.could(-1, 0), BAD);
        due("could(41, 0)", x.could(41, 0), BAD);
        due("could(0, -1)", x.could(0, -1), BAD);
        due("could(0, 256)", x.could(0, 256), BAD);
        due("one PERSON, no FACTS", new HalfAsleep().could(0, 0), 1);
        due("one PERSON, one FACT", new HalfAsleep().could(40, 1), 0);
    }

    private static void alikeEdges() {
        CHECK.about("ALIKE: the fewest n of these by which both halves of a PERSON know the same; none");
        for (int facts = 0; facts <= 8; facts++) {
            int known = (1 << facts) - 1;
            for (int most = 0; most <= 8; most++) {
                HalfAsleep x = laid("p1,1;n" + most + ";k0,0," + known + ";");
                int want = facts == 0 ? 0 : most == 0 ? NONE : (facts + most - 1) / most;
                due("alike by " + facts + " FACTS, N " + most, x.alike(0), want);
                HalfAsleep y = laid("p1,1;n" + most + ";k0,1," + known + ";");
                due("alike by " + facts + " FACTS of RIGHT, N " + most, y.alike(0), want);
            }
        }
        HalfAsleep x = laid("p1,1;n0;k0,0,3;k0,1,1;");
        due("N 0, one FACT apart", x.alike(0), NONE);
        x.note(0, 1);
        due("by its NOTE", x.alike(0), 1);
        x.shifts(1);
        due("now", x.alike(0), 0);
        x.see(0, 6);
        due("apart again", x.alike(0), NONE);
        HalfAsleep same = laid("p1,1;n0;k0,0,255;k0,1,255;");
        due("both know all", same.alike(0), 0);
        HalfAsleep five = laid(FIVE + "n1;k1,0,1;k2,1,3;k3,0,7;k4,0,15;k4,1,240;");
        for (int i = 0; i < 5; i++) {
            due("each of five, " + i, five.alike(i), i);
        }
    }

    private static void purseTakenWhole() {
        CHECK.about("if these together are more than P, both have 0; else LEFT has x G, RIGHT y H");
        for (int p = 0; p <= 20; p++) {
            HalfAsleep x = laid("p1,1;u" + p + ",7,9;");
            for (int mine = 0; mine <= 9; mine++) {
                int just = p - mine;
                if (just >= 0 && just <= 9) {
                    due("LEFT by all of " + p, x.purse(mine, just, 0), 7 * mine);
                    due("RIGHT by all of " + p, x.purse(mine, just, 1), 9 * just);
                }
                if (just + 1 >= 0 && just + 1 <= 9) {
                    due("LEFT by one too much of " + p, x.purse(mine, just + 1, 0), 0);
                    due("RIGHT by one too much of " + p, x.purse(mine, just + 1, 1), 0);
                }
            }
        }
        HalfAsleep most = laid("p1,1;u18,9,9;");
        due("9 and 9 of 18", most.purse(9, 9, 0), 81);
        due("9 and 9 of 17", laid("p1,1;u17,9,9;").purse(9, 9, 0), 0);
        due("9 and 8 of 17", laid("p1,1;u17,9,9;").purse(9, 8, 1), 72);
        due("x 0 is none too few", most.purse(0, 9, 0), 4);
        due("y 0 is none too few", most.purse(9, 0, 1), 4);
    }

    private static void purseCut() {
        CHECK.about("and each the half, cut, of what is left of P besides (of the coin as they are, not times G or H)");
        for (int p = 0; p <= 20; p++) {
            HalfAsleep x = laid("p1,1;u" + p + ",9,8;");
            due("nothing taken of " + p + ", LEFT", x.purse(0, 0, 0), p / 2);
            due("nothing taken of " + p + ", RIGHT", x.purse(0, 0, 1), p / 2);
            if (p >= 1) {
                due("LEFT takes 1 of " + p, x.purse(1, 0, 0), 9 + (p - 1) / 2);
                due("RIGHT has then", x.purse(1, 0, 1), (p - 1) / 2);
            }
            if (p >= 2) {
                due("one each of " + p, x.purse(1, 1, 1), 8 + (p - 2) / 2);
            }
        }
    }

    private static void restsEdges() {
        CHECK.about("A REST is x and y by which neither would have more by another number of its own (0 to 9)");
        // of 20 coin, y 9, LEFT has most by 9 alone: 9 + 1; y 8: 9 + 1 by 9, 8 + 2 by 8: so 8, 8 and 9, 9
        HalfAsleep much = laid("p1,1;u20,1,1;");
        due("20 coin", much.rests(0), 2);
        due("20 coin, x", much.rests(1), 8);
        due("20 coin, y", much.rests(2), 8);
        // worth 2 each is better than the half of what is left: 9, 9 alone
        HalfAsleep dear = laid("p1,1;u20,2,2;");
        due("20 dear coin", dear.rests(0), 1);
        due("20 dear coin, x", dear.rests(1), 9);
        due("20 dear coin, y", dear.rests(2), 9);
        // of 0 coin all have 0, whatever they take
        HalfAsleep empty = laid("p1,1;u0,9,9;");
        due("0 coin", empty.rests(0), 100);
        due("0 coin, x", empty.rests(1), 0);
        due("0 coin, y", empty.rests(2), 0);
        // of 1 coin worth 2: 0, 1 and 1, 0; and if each takes 1 at least, neither can have a thing: 9 times 9
        HalfAsleep one = laid("p1,1;u1,2,2;");
        due("1 coin", one.rests(0), 2 + 81);
        due("1 coin, x", one.rests(1), 0);
        due("1 coin, y", one.rests(2), 1);
        // of 9 coin worth 2: x and y are 9 together; and if each takes 9, neither can have a thing
        HalfAsleep nine = laid("p1,1;u9,2,2;");
        due("9 coin", nine.rests(0), 10 + 1);
        due("9 coin, x", nine.rests(1), 0);
        due("9 coin, y", nine.rests(2), 9);
        // of 10 coin worth 2 each can leave the other one a coin: 1, 9 is the first
        HalfAsleep ten = laid("p1,1;u10,2,2;");
        due("10 coin", ten.rests(0), 9);
        due("10 coin, x", ten.rests(1), 1);
        due("10 coin, y", ten.rests(2), 9);
        nine.wipe();
        Check.write(nine, "p1,1;u0,1,1;");
        nine.lay();
        due("0 coin behind 9", nine.rests(0), 100);
        due("rests(-1)", nine.rests(-1), BAD);
        due("rests(3)", nine.rests(3), BAD);
    }

    private static void campsEdges() {
        CHECK.about("that by which the fewest PART, of several the lowest");
        due("one PERSON: none", laid("p1,1;").camps(0), 0);
        due("one PERSON: way 0", laid("p1,1;").camps(1), 0);
        due("five, nobody MARRIED: way 0", laid(FIVE).camps(1), 0);
        String same = "m0,0,4,0;m1,0,4,0;m2,1,4,1;m3,1,4,1;";
        due("none PARTS by 0 or 31", laid(FIVE + same).camps(0), 0);
        due("0 is the lowest", laid(FIVE + same).camps(1), 0);
        String cross = "m0,0,4,1;m1,0,4,1;m2,1,4,0;m3,1,4,0;";
        due("none PARTS by 15 or 16", laid(FIVE + cross).camps(0), 0);
        due("15 is the lowest", laid(FIVE + cross).camps(1), 15);
        for (int like = 0; like <= 8; like++) {
            String pairs = "m0,0,1,0;".repeat(like) + "m0,0,1,1;".repeat(8 - like);
            HalfAsleep x = laid("p1,1;p1,1;" + pairs);
            due("fewest of 8, " + like + " alike", x.camps(0), Math.min(like, 8 - like));
            due("its way", x.camps(1), like >= 4 ? 0 : 1);
        }
        due("camps(-1)", laid(FIVE).camps(-1), BAD);
        due("camps(2)", laid(FIVE).camps(2), BAD);
    }

    private static void tenDeeds() {
        CHECK.about("SEEN DEEDS (10 at most)");
        Twins twins = new Twins(CHECK);
        HalfAsleep x = laid(FIVE + "n0;k0,0,1;k1,0,2;");
        for (int k = 1; k <= 10; k++) {
            due("DEED " + k, x.seen(0, k < 10 ? 1 : 2), k);
            due("how many", x.count(4), k);
        }
        due("the tenth counts", x.least(), 3);
        due("it counts for fits, too", x.fits(), 0);
        twins.unchanged("an eleventh", y -> manyDeeds(y, 10), y -> y.seen(0, 4), FULL);
        twins.unchanged("an eleventh that needs nothing", y -> manyDeeds(y, 10), y -> y.seen(40, 0), FULL);
        twins.unchanged("a wrong eleventh", y -> manyDeeds(y, 10), y -> y.seen(41, 0), BAD);
        twins.unchanged("a wrong tenth", y -> manyDeeds(y, 9), y -> y.seen(0, 256), BAD);
        due("forget()", x.forget(), 10);
        due("the first again", x.seen(0, 2), 1);
        due("it alone counts", x.fits(), 2);
    }

    private static void manyDeeds(HalfAsleep x, int deeds) {
        Check.write(x, FIVE + "n0;k0,0,1;k1,0,3;");
        x.lay();
        for (int k = 0; k < deeds; k++) {
            x.seen(k, k % 2 == 0 ? 1 : 0);
        }
    }

    private static void deedsAsLaid() {
        CHECK.about("done in SHIFT t (0 to 40) .. As it was LAID, if SHIFTS END and nothing else is done");
        int[] known = {0, 1, 3, 7, 15, 31, 63, 127, 255};
        for (int t = 0; t <= 40; t++) {
            int byRight = known[Math.min(t, 8)];
            int awake = t % 2 == 0 ? 255 : byRight;
            HalfAsleep x = laid("p1,1;p1,1;n1;k1,0,255;");
            x.see(0, 7);
            x.note(0, 7);
            x.shifts(3);
            x.seen(t, awake);
            due("all that is known in " + t, x.fits(), awake == 0 ? 3 : 2);
            x.seen(t, 255);
            due("all FACTS in " + t, x.fits(), awake == 255 ? 2 : 0);
        }
        HalfAsleep x = laid("p1,1;");
        for (int t : new int[] {-1, 41}) {
            due("seen(" + t + ", 0)", x.seen(t, 0), BAD);
        }
        due("none counted", x.count(4), 0);
    }

    private static void fitsEdges() {
        CHECK.about("FITS, the PERSONS (bits) who each could have done all of them");
        for (int persons = 1; persons <= 5; persons++) {
            HalfAsleep x = laid("p1,1;".repeat(persons) + "n0;k" + (persons - 1) + ",0,128;");
            int all = (1 << persons) - 1;
            due("no DEEDS, " + persons, x.fits(), all);
            x.seen(40, 0);
            due("a DEED that needs nothing", x.fits(), all);
            x.seen(0, 128);
            due("the last alone", x.fits(), 1 << persons - 1);
            x.seen(1, 128);
            due("nobody", x.fits(), 0);
        }
    }

    private static void leastEdges() {
        CHECK.about("LEAST, of sets of PERSONS .. that of the fewest, then the lowest; none");
        HalfAsleep x = laid(FIVE + "n0;k0,0,1;k1,0,2;k2,0,4;k3,0,8;k4,0,15;");
        due("no DEEDS: nobody is needed", x.least(), 0);
        x.seen(0, 1);
        due("0 or 4: the lowest", x.least(), 1);
        x.seen(0, 2);
        due("0 and 1, or 4: the fewest, though higher", x.least(), 16);
        x.seen(0, 8);
        due("4 still", x.least(), 16);
        x.seen(0, 16);
        due("nobody could", x.least(), NONE);
        HalfAsleep five = laid(FIVE + "n0;k0,0,1;k1,0,2;k2,0,4;k3,0,8;k4,0,16;");
        int[] needed = {1, 3, 7, 15, 31};
        for (int fact = 0; fact < 5; fact++) {
            five.seen(0, 1 << fact);
            due("each by another one", five.least(), needed[fact]);
        }
        HalfAsleep pairs = laid("p1,1;p1,1;p1,1;p1,1;n0;k0,0,1;k1,0,2;k2,0,1;k3,0,2;");
        pairs.seen(0, 1);
        pairs.seen(0, 2);
        due("of four sets of two the lowest", pairs.least(), 3);
        HalfAsleep unlike = laid("p1,1;p1,1;p1,1;n0;k0,0,1;k0,1,1;k1,0,2;k2,1,2;");
        unlike.seen(0, 2);
        unlike.seen(1, 2);
        due("one half of each", unlike.least(), 6);
        due("none of them fits alone", unlike.fits(), 0);
    }

    private static int drawOf(int z, int k) {
        BigInteger x = BigInteger.valueOf(z).multiply(BigInteger.valueOf(7919))
                .add(BigInteger.valueOf(k).multiply(BigInteger.valueOf(6151))).add(BigInteger.ONE);
        return x.multiply(x).mod(BigInteger.valueOf(65521)).intValue();
    }

    private static void draws() {
        CHECK.about("A MONTH by z (0 to 9999) of n SHIFTS (1 to 60): DRAW being (x times x) modulo 65521");
        for (int z : new int[] {0, 1, 5, 6, 8, 46, 4999, 5000, 9998, 9999}) {
            for (int n : new int[] {1, 2, 3, 59, 60}) {
                for (int persons = 1; persons <= 5; persons++) {
                    monthOf(z, n, persons, 0);
                    monthOf(z, n, persons, 1);
                }
            }
        }
        // by hand: 7919 times 9999 and 1 is 79182082, 1 by z 0 and k 0
        HalfAsleep x = laid(FIVE + "n0;");
        due("z 0, n 1: FACT 1, PERSON 0", x.month(0, 1, 0, 0), 2);
        due("z 9999, n 1: DRAW 51303, FACT 7, PERSON 2", x.month(9999, 1, 2, 0), 128);
        due("z 0, n 2: DRAW 41487, FACT 7, PERSON 0", x.month(0, 2, 0, 1), 128);
    }

    /** By n0; each half knows at last just what was SEEN by it. */
    private static void monthOf(int z, int n, int persons, int start) {
        int[] known = new int[2 * persons];
        for (int k = 0; k < n; k++) {
            int draw = drawOf(z, k);
            known[2 * (draw / 8 % persons) + (start + k) % 2] |= 1 << draw % 8;
        }
        HalfAsleep x = atShift("p1,1;".repeat(persons) + "n0;", start);
        for (int i = 0; i < persons; i++) {
            for (int d = 0; d < 2; d++) {
                String call = "month(" + z + ", " + n + ", " + i + ", " + d + ") of " + persons + " from " + start;
                due(call, x.month(z, n, i, d), known[2 * i + d]);
            }
        }
        due("nothing changes", x.count(3), start);
    }

    private static void monthNotes() {
        CHECK.about("from now on (NOTES that hang now are told at the first END)");
        HalfAsleep x = laid("p1,1;p1,1;n0;k1,0,48;");
        x.note(1, 4);
        x.note(1, 5);
        // z 0, k 0: FACT 1 by PERSON 0
        due("PERSON 1 reads his NOTES", x.month(0, 1, 1, 1), 48);
        due("PERSON 0 has none", x.month(0, 1, 0, 1), 0);
        due("the NOTES hang still", x.half(1, 1, 2), 48);
        due("RIGHT does not know them yet", x.half(1, 1, 1), 0);
        HalfAsleep told = laid("p1,1;n1;k0,0,4;");
        due("what is SEEN is told at that SHIFT's END: 2, not 4", told.month(0, 1, 0, 1), 2);
    }

    private static void monthFromLastShift() {
        CHECK.about("a MONTH, KNOWS, COULD, ALIKE, DONE from SHIFT 9999: no sentence bounds them");
        HalfAsleep x = atShift("p1,2;n0;c1;j01;k0,0,1;", 9999);
        due("month(0, 1): RIGHT sees FACT 1", x.month(0, 1, 0, 1), 2);
        due("month(0, 2): LEFT sees FACT 7", x.month(0, 2, 0, 0), 129);
        due("knows(40)", x.knows(40, 0, 0), 1);
        due("could(1, 1)", x.could(1, 1), 1);
        due("could(2, 1)", x.could(2, 1), 0);
        due("alike", x.alike(0), NONE);
        due("done", x.done(0, 0), 3);
        due("the SHIFT stays", x.count(3), 9999);
    }

    private static void keptEdges() {
        CHECK.about("KEPT are the SHIFT, what halves know, NOTES that hang: 2 at most");
        Twins twins = new Twins(CHECK);
        twins.unchanged("back() of none", x -> { }, x -> x.back(), NO);
        twins.unchanged("back() of none, later", x -> richWithKept(x, 0), x -> x.back(), NO);
        twins.unchanged("keep() of a third", x -> richWithKept(x, 2), x -> x.keep(), FULL);
        HalfAsleep x = laid("p1,1;n0;k0,0,1;");
        x.note(0, 0);
        due("keep()", x.keep(), 1);
        due("KEPT", x.count(5), 1);
        go(x, 0, 1201);
        x.see(0, 6);
        due("keep()", x.keep(), 2);
        due("KEPT", x.count(5), 2);
        go(x, 1201, 2000);
        due("a third", x.keep(), FULL);
        due("KEPT", x.count(5), 2);
        due("back()", x.back(), 1);
        due("the SHIFT", x.count(3), 1201);
        due("RIGHT", x.half(0, 1, 1), 65);
        due("back()", x.back(), 0);
        due("the SHIFT", x.count(3), 0);
        due("RIGHT", x.half(0, 1, 1), 0);
        due("hangs for RIGHT", x.half(0, 1, 2), 1);
        due("back() of none", x.back(), NO);
        due("the SHIFT goes on", x.shifts(1), 1);
        due("the NOTE is read", x.half(0, 1, 1), 1);
        due("keep() from 1 on", x.keep(), 1);
        notKept();
    }

    private static void richWithKept(HalfAsleep x, int kept) {
        Check.write(x, "p1,2;p4,8;j01;n1;k0,0,7;");
        x.lay();
        for (int k = 0; k < kept; k++) {
            x.note(0, k);
            x.keep();
            x.shifts(1 + 2 * k);
            x.see(1, k);
        }
        x.seen(0, 1);
        x.see(1, 6);
        x.note(1, 6);
    }

    private static void notKept() {
        HalfAsleep x = laid("p1,1;");
        x.seen(0, 0);
        x.keep();
        x.seen(0, 1);
        Check.write(x, "c1;");
        due("back()", x.back(), 0);
        due("DEEDS are not KEPT", x.count(4), 2);
        due("THE TEXT is not KEPT", x.count(6), 8);
        due("C is not KEPT", x.count(7), 3);
        x.keep();
        x.wipe();
        due("wipe leaves KEPT", x.count(5), 1);
        due("forget leaves KEPT", x.forget(), 2);
        due("back()", x.back(), 0);
    }

    private static void forgetEdges() {
        CHECK.about("No SEEN DEEDS: how many were");
        for (int deeds = 0; deeds <= 10; deeds++) {
            HalfAsleep x = new HalfAsleep();
            manyDeeds(x, deeds);
            due("forget() of " + deeds, x.forget(), deeds);
            due("none left", x.count(4), 0);
            due("forget() again", x.forget(), 0);
            due("all fit", x.fits(), 31);
            due("nobody is needed", x.least(), 0);
        }
    }

    private static void last512() {
        CHECK.about("An object is used for at most 512 calls after it has been made");
        HalfAsleep x = new HalfAsleep();
        for (int call = 1; call <= 511; call++) {
            due("shifts(19), call " + call, x.shifts(19), 19 * call);
        }
        due("the 512th call", x.count(3), 19 * 511);
        HalfAsleep y = new HalfAsleep();
        for (int call = 1; call <= 256; call++) {
            due("keep()", y.keep(), 1);
            due("back()", y.back(), 0);
        }
    }
}
