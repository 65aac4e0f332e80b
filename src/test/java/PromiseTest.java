import java.util.List;

/** For each promise: ordinary inputs, the edges that the document names, wrong inputs. */
public final class PromiseTest {
    private static final int BAD = HalfAsleep.BAD, NO = HalfAsleep.NO, FULL = HalfAsleep.FULL, NONE = HalfAsleep.NONE;
    private static final int MIN = Integer.MIN_VALUE, MAX = Integer.MAX_VALUE;
    private static final Check CHECK = new Check();

    public static void main(String[] args) {
        newObject();
        write();
        wipe();
        faultForms();
        faultLimits();
        faultPlaces();
        lay();
        half();
        see();
        note();
        deed();
        shifts();
        done();
        handed();
        best();
        knows();
        could();
        alike();
        purse();
        rests();
        camps();
        seen();
        forget();
        fits();
        least();
        month();
        keepAndBack();
        count();
        orderOfRefusals();
        CHECK.end("PromiseTest");
    }

    private static void due(String call, int got, int want) {
        CHECK.due(call, got, want);
    }

    private static HalfAsleep laid(String text) {
        return Check.laid(text);
    }

    private static void newObject() {
        CHECK.about("1 a new object");
        HalfAsleep x = new HalfAsleep();
        int[] counts = {1, 1, 0, 0, 0, 0, 0, 3, 2};
        for (int what = 0; what < counts.length; what++) {
            due("count(" + what + ")", x.count(what), counts[what]);
        }
        due("LEFT skills", x.half(0, 0, 0), 1);
        due("RIGHT skills", x.half(0, 1, 0), 2);
        due("LEFT knows", x.half(0, 0, 1), 0);
        due("RIGHT knows", x.half(0, 1, 1), 0);
        due("done(0, 0)", x.done(0, 0), 2);
        due("handed(0, 0)", x.handed(0, 0), 1);
        due("purse(9, 0, 0)", x.purse(9, 0, 0), 9);
        due("purse(9, 1, 0)", x.purse(9, 1, 0), 0);
        due("purse(0, 3, 1)", x.purse(0, 3, 1), 6);
        due("fault()", x.fault(), NONE);
        due("lay()", x.lay(), NO);
    }

    private static void write() {
        CHECK.about("2 write");
        HalfAsleep x = new HalfAsleep();
        due("write(0, 0)", x.write(0, 0), BAD);
        due("write(9, 0)", x.write(9, 0), BAD);
        due("write(-1, 0)", x.write(-1, 0), BAD);
        due("write(MIN, 0)", x.write(MIN, 0), BAD);
        due("write(MAX, 0)", x.write(MAX, 0), BAD);
        due("length", x.count(6), 0);
        // the bytes above the lowest five are not looked at: p1,2;
        due("write(5, ..)", x.write(5, 0xFFFFFF70312C323BL), 5);
        due("lay()", x.lay(), 1);
        due("LEFT skills", x.half(0, 0, 0), 1);
        due("RIGHT skills", x.half(0, 1, 0), 2);
        due("write(8, p3,12;j0)", x.write(8, 0x70332C31323B6A30L), 13);
        due("write(1, ;)", x.write(1, ';'), 14);
        due("lay()", x.lay(), 2);
        due("RIGHT skills of 1", x.half(1, 1, 0), 12);
        writeToTheEnd();
    }

    private static void writeToTheEnd() {
        HalfAsleep x = new HalfAsleep();
        for (int k = 1; k <= 37; k++) {
            due("write(8, 0) no. " + k, x.write(8, 0), 8 * k);
        }
        due("write(5, 0) at 296", x.write(5, 0), FULL);
        due("write(9, 0) at 296", x.write(9, 0), BAD);
        due("length", x.count(6), 296);
        due("write(4, 0) at 296", x.write(4, 0), 300);
        due("write(1, 0) at 300", x.write(1, 0), FULL);
        due("write(0, 0) at 300", x.write(0, 0), BAD);
        due("length", x.count(6), 300);
        HalfAsleep y = new HalfAsleep();
        due("300 bytes", Check.write(y, "p1,2;" + "c1;".repeat(97) + "c05;"), 300);
        due("their fault", y.fault(), NONE);
        due("one more", y.write(1, ';'), FULL);
        due("their fault still", y.fault(), NONE);
        due("lay()", y.lay(), 1);
        due("C", y.count(7), 5);
    }

    private static void wipe() {
        CHECK.about("3 wipe");
        HalfAsleep x = new HalfAsleep();
        due("wipe() of none", x.wipe(), 0);
        Check.write(x, "p4,8;p1,1;");
        due("lay()", x.lay(), 2);
        due("wipe()", x.wipe(), 10);
        due("length", x.count(6), 0);
        due("what is laid stays", x.count(0), 2);
        due("fault()", x.fault(), NONE);
        due("lay()", x.lay(), NO);
        due("wipe() again", x.wipe(), 0);
        due("write behind it", Check.write(x, "p7,8;"), 5);
        due("lay()", x.lay(), 1);
        due("skills", x.half(0, 0, 0), 7);
        wipedBytesAreGone();
    }

    /** What stood behind the end before a wipe is no part of a shorter text. */
    private static void wipedBytesAreGone() {
        List<String> items = List.of("p12,34;", "j0123;", "c1;", "n1;", "u1,1,1;");
        for (String item : items) {
            for (int length = 1; length < item.length(); length++) {
                HalfAsleep x = new HalfAsleep();
                Check.write(x, item);
                x.wipe();
                Check.write(x, item.substring(0, length));
                due("fault of " + length + " bytes of " + item, x.fault(), 0);
                due("lay()", x.lay(), NO);
            }
        }
    }

    private static void faultAt(String text, int want) {
        due("fault of " + text, Check.faultOf(text), want);
    }

    private static void faultForms() {
        CHECK.about("4 fault");
        List<String> good = List.of("", "p0,0;", "p63,63;", "p063,007;", "j0;", "j01234501;", "j55555555;", "c1;", "c8;",
                "c008;", "n0;", "n8;", "u0,1,1;", "u20,9,9;", "p1,1;k0,0,0;", "p1,1;k0,1,255;", "p1,1;p1,1;m0,0,1,1;",
                "p1,1;p1,1;m1,1,0,0;", "c1;c2;c3;n1;n2;u1,1,1;u2,2,2;", "p1,1;k0,0,1;k0,0,2;",
                "p1,1;p1,1;m0,0,1,0;m0,0,1,0;m1,0,0,0;");
        for (String text : good) {
            faultAt(text, NONE);
        }
        List<String> bad = List.of("x1;", "P1,1;", ";", ",", "1", " p1,1;", "p", "p1", "p1,", "p1,1", "p1;", "p1,1,1;",
                "p,1;", "p1,;", "p1,,1;", "p;", "p0001,1;", "p1,0001;", "p-1,1;", "p+1,1;", "p 1,1;", "p1, 1;",
                "p1;1;", "p1,1:", "p64,0;", "p0,64;", "p999,1;", "j;", "j", "j0", "j6;", "j9;", "j05a;", "j/;",
                "j0,1;", "j000000000;", "j012345012;", "c;", "c0;", "c9;", "c1,1;", "c1", "c0001;", "n;", "n9;", "n1,1;",
                "n999;", "u;", "u1;", "u1,1;", "u1,1,1,1;", "u21,1,1;", "u1,0,1;", "u1,1,0;", "u1,10,1;", "u1,1,10;",
                "k0,0,1;", "m0,0,1,0;", "\u0000", "\u00f0", "\u00ff\u00ff", "p\u00b1,1;", "p1\u00ac1;", "j\u00b0;");
        for (String text : bad) {
            faultAt(text, 0);
            faultAt("c1;" + text, 3);
        }
        faultAt("p1,1;1,1;", 5);
        faultAt("p1,1;;", 5);
        faultAt("p1,1;\u0000", 5);
    }

    private static void faultLimits() {
        faultAt("p1,1;".repeat(5), NONE);
        faultAt("p1,1;".repeat(6), 25);
        faultAt("j0;".repeat(4), NONE);
        faultAt("j0;".repeat(5), 12);
        String two = "p1,1;p1,1;";
        faultAt(two + "m0,0,1,1;".repeat(8), NONE);
        faultAt(two + "m0,0,1,1;".repeat(9), 10 + 8 * 9);
        faultAt("p1,1;k0,2,1;", 5);
        faultAt("p1,1;k1,0,1;", 5);
        faultAt("p1,1;k1,0,1;p1,1;", 5);
        faultAt("p1,1;k0,0,256;", 5);
        faultAt("p1,1;k0,0;", 5);
        faultAt("p1,1;k0,0,1,1;", 5);
        faultAt(two + "k1,1,255;k2,0,0;", 19);
        faultAt(two + "m0,0,0,1;", 10);
        faultAt(two + "m1,0,1,0;", 10);
        faultAt(two + "m0,2,1,0;", 10);
        faultAt(two + "m0,0,1,2;", 10);
        faultAt(two + "m2,0,1,0;", 10);
        faultAt(two + "m0,0,2,0;", 10);
        faultAt(two + "m0,0,1;", 10);
        faultAt(two + "m0,0,1,0,0;", 10);
        faultAt("p1,1;m0,0,1,0;p1,1;", 5);
    }

    private static void faultPlaces() {
        faultAt("p1,1;c9;p64,0;", 5);
        faultAt("p1,1;c3;p64,0;", 8);
        faultAt("c9;c3;", 0);
        faultAt("p001,002;j012345;x", 17);
        HalfAsleep x = new HalfAsleep();
        Check.write(x, "p1,1");
        due("fault of p1,1", x.fault(), 0);
        due("fault again", x.fault(), 0);
        x.write(1, ';');
        due("fault of p1,1;", x.fault(), NONE);
        due("nothing is laid by fault", x.half(0, 1, 0), 2);
    }

    private static void lay() {
        CHECK.about("5 lay");
        HalfAsleep x = laid("p3,12;p21,42;j0123;c2;n1;k0,0,15;m0,0,1,1;u10,2,3;");
        due("count(6)", x.count(6), 50);
        x.see(1, 7);
        x.note(1, 7);
        x.shifts(1);
        x.see(0, 3);
        x.note(0, 3);
        x.keep();
        x.seen(0, 0);
        int length = x.count(6);
        x.write(1, 'p');
        due("lay() with a fault", x.lay(), NO);
        due("SHIFT stays", x.count(3), 1);
        due("NOTES stay", x.half(0, 0, 2), 8);
        due("DEEDS stay", x.count(4), 1);
        due("KEPT stay", x.count(5), 1);
        due("knowledge stays", x.half(1, 0, 1), 128);
        due("TEXT stays", x.count(6), length + 1);
        Check.write(x, "0,0;");
        due("lay()", x.lay(), 3);
        due("SHIFT", x.count(3), 0);
        due("DEEDS", x.count(4), 0);
        due("KEPT", x.count(5), 0);
        due("back()", x.back(), NO);
        due("TEXT", x.count(6), length + 5);
        due("known by LEFT 0", x.half(0, 0, 1), 15);
        due("known by RIGHT 0", x.half(0, 1, 1), 0);
        due("known by LEFT 1", x.half(1, 0, 1), 0);
        due("hangs for LEFT 0", x.half(0, 0, 2), 0);
        due("hangs for RIGHT 0", x.half(0, 1, 2), 0);
        due("hangs for RIGHT 1", x.half(1, 1, 2), 0);
        layAgain(x);
    }

    private static void layAgain(HalfAsleep x) {
        x.wipe();
        Check.write(x, "c1;n1;j0;");
        due("lay() without a PERSON", x.lay(), NO);
        due("PERSONS stay", x.count(0), 3);
        x.wipe();
        Check.write(x, "c4;c5;n3;n0;u1,2,3;u4,5,6;p1,1;k0,0,3;k0,1,1;k0,0,4;");
        due("lay()", x.lay(), 1);
        int[] counts = {1, 0, 0, 0, 0, 0, 52, 5, 0};
        for (int what = 0; what < counts.length; what++) {
            due("count(" + what + ")", x.count(what), counts[what]);
        }
        due("the last k of LEFT", x.half(0, 0, 1), 4);
        due("the last k of RIGHT", x.half(0, 1, 1), 1);
        due("the last u, LEFT", x.purse(1, 0, 0), 6);
        due("the last u, RIGHT", x.purse(0, 1, 1), 7);
        x.wipe();
        Check.write(x, "p2,2;");
        due("lay()", x.lay(), 1);
        due("C without", x.count(7), 3);
        due("N without", x.count(8), 2);
        due("PURSE without", x.purse(9, 0, 0), 9);
        due("known without", x.half(0, 0, 1), 0);
        layLessThanBefore();
    }

    /** Nothing of a richer text, laid twice, is left behind a poorer one. */
    private static void layLessThanBefore() {
        HalfAsleep x = new HalfAsleep();
        String rich = "p1,1;p63,63;j0;j5;m0,0,1,1;m0,0,1,0;k0,0,255;k0,1,255;k1,0,255;k1,1,255;c8;n8;u20,9,9;";
        Check.write(x, rich);
        due("lay()", x.lay(), 2);
        due("lay() again", x.lay(), 2);
        x.wipe();
        Check.write(x, "p1,1;j5;");
        for (int time = 0; time < 2; time++) {
            due("lay()", x.lay(), 1);
            due("TRADES", x.count(1), 1);
            due("pairs", x.count(2), 0);
            due("C", x.count(7), 3);
            due("N", x.count(8), 2);
            due("LEFT knows", x.half(0, 0, 1), 0);
            due("RIGHT knows", x.half(0, 1, 1), 0);
            due("PERSON 1", x.half(1, 0, 0), BAD);
            due("best(0)", x.best(0), NONE);
            due("best(1)", x.best(1), BAD);
            due("camps(0)", x.camps(0), 0);
            due("camps(1)", x.camps(1), 0);
            due("could(0, 0)", x.could(0, 0), 1);
            due("fits()", x.fits(), 1);
            due("purse(9, 9, 0)", x.purse(9, 9, 0), 0);
        }
        x.wipe();
        Check.write(x, "p1,1;p0,0;");
        due("lay()", x.lay(), 2);
        due("LEFT of 1 knows", x.half(1, 0, 1), 0);
        due("RIGHT of 1 knows", x.half(1, 1, 1), 0);
        due("camps(0)", x.camps(0), 0);
    }

    private static void half() {
        CHECK.about("6 half");
        HalfAsleep x = laid("p63,0;p5,9;k1,0,200;k1,1,255;");
        due("half(0, 0, 0)", x.half(0, 0, 0), 63);
        due("half(0, 1, 0)", x.half(0, 1, 0), 0);
        due("half(1, 0, 0)", x.half(1, 0, 0), 5);
        due("half(1, 1, 0)", x.half(1, 1, 0), 9);
        due("half(1, 0, 1)", x.half(1, 0, 1), 200);
        due("half(1, 1, 1)", x.half(1, 1, 1), 255);
        x.note(1, 7);
        x.note(1, 3);
        due("hangs for RIGHT", x.half(1, 1, 2), 136);
        due("hangs for LEFT", x.half(1, 0, 2), 0);
        due("hangs for the other's RIGHT", x.half(0, 1, 2), 0);
        x.shifts(1);
        due("gone", x.half(1, 1, 2), 0);
        x.note(1, 0);
        due("hangs for LEFT by day", x.half(1, 0, 2), 1);
        due("hangs for RIGHT by day", x.half(1, 1, 2), 0);
        int[][] wrong = {{2, 0, 0}, {-1, 0, 0}, {0, 2, 0}, {0, -1, 0}, {0, 0, 3}, {0, 0, -1},
            {MAX, 0, 0}, {MIN, 0, 0}, {0, MAX, 0}, {0, MIN, 0}, {0, 0, MAX}, {0, 0, MIN}, {1 << 30, 0, 1}};
        for (int[] w : wrong) {
            due("half" + List.of(w[0], w[1], w[2]), x.half(w[0], w[1], w[2]), BAD);
        }
    }

    private static void see() {
        CHECK.about("7 see");
        HalfAsleep x = laid("p1,1;p1,1;n0;k0,0,1;");
        due("see(0, 7)", x.see(0, 7), 129);
        due("see(0, 7) again", x.see(0, 7), 129);
        due("see(0, 0)", x.see(0, 0), 129);
        due("the sleeping half", x.half(0, 1, 1), 0);
        due("the other PERSON", x.half(1, 0, 1), 0);
        x.shifts(1);
        due("see(0, 2) by day", x.see(0, 2), 4);
        due("the half that sleeps now", x.half(0, 0, 1), 129);
        int[][] wrong = {{2, 0}, {-1, 0}, {0, 8}, {0, -1}, {MAX, 0}, {MIN, 0}, {0, MAX}, {0, MIN}, {0, 34}};
        for (int[] w : wrong) {
            due("see" + List.of(w[0], w[1]), x.see(w[0], w[1]), BAD);
        }
        due("nothing changes", x.half(0, 1, 1), 4);
    }

    private static void note() {
        CHECK.about("8 note");
        HalfAsleep x = laid("p1,1;p1,1;n0;k0,0,3;k0,1,4;");
        due("note(0, 2) of what only the sleeper knows", x.note(0, 2), NO);
        due("nothing hangs", x.half(0, 1, 2), 0);
        due("note(0, 1)", x.note(0, 1), 2);
        due("note(0, 0)", x.note(0, 0), 3);
        due("note(0, 0) again", x.note(0, 0), 3);
        due("note(1, 0)", x.note(1, 0), NO);
        due("not known before the END", x.half(0, 1, 1), 4);
        x.shifts(1);
        due("known behind the END", x.half(0, 1, 1), 7);
        due("note(0, 2) by day", x.note(0, 2), 4);
        x.shifts(1);
        due("LEFT knows", x.half(0, 0, 1), 7);
        int[][] wrong = {{2, 0}, {-1, 0}, {0, 8}, {0, -1}, {MAX, 0}, {MIN, 0}, {0, MAX}, {0, MIN}, {0, 32}};
        for (int[] w : wrong) {
            due("note" + List.of(w[0], w[1]), x.note(w[0], w[1]), BAD);
        }
    }

    private static void deed() {
        CHECK.about("9 deed");
        HalfAsleep x = laid("p1,1;n0;k0,0,240;k0,1,15;");
        due("deed(0, 0)", x.deed(0, 0), 1);
        due("deed(0, 240)", x.deed(0, 240), 1);
        due("deed(0, 16)", x.deed(0, 16), 1);
        due("deed(0, 17)", x.deed(0, 17), 0);
        due("deed(0, 255)", x.deed(0, 255), 0);
        x.shifts(1);
        due("deed(0, 16) by day", x.deed(0, 16), 0);
        due("deed(0, 15) by day", x.deed(0, 15), 1);
        int[][] wrong = {{1, 0}, {-1, 0}, {0, 256}, {0, -1}, {MAX, 0}, {MIN, 0}, {0, MAX}, {0, MIN}};
        for (int[] w : wrong) {
            due("deed" + List.of(w[0], w[1]), x.deed(w[0], w[1]), BAD);
        }
    }

    private static void shifts() {
        CHECK.about("10 shifts");
        HalfAsleep x = laid("p1,1;n2;k0,0,112;k0,1,139;");
        due("shifts(1)", x.shifts(1), 1);
        // LEFT told 16 and 32, RIGHT 1 and 2: what each KNEW, not what it was just told
        due("LEFT", x.half(0, 0, 1), 112 + 3);
        due("RIGHT", x.half(0, 1, 1), 139 + 48);
        due("shifts(1)", x.shifts(1), 2);
        due("LEFT", x.half(0, 0, 1), 112 + 139);
        due("RIGHT", x.half(0, 1, 1), 139 + 112);
        HalfAsleep y = laid("p1,1;n1;k0,0,7;");
        y.note(0, 0);
        y.shifts(1);
        // the NOTE is read behind the telling: FACT 0 is told all the same
        due("told and hung are the same FACT", y.half(0, 1, 1), 1);
        HalfAsleep all = laid("p1,1;n8;k0,0,170;k0,1,85;");
        all.shifts(1);
        due("all told to LEFT", all.half(0, 0, 1), 255);
        due("all told to RIGHT", all.half(0, 1, 1), 255);
        shiftsToTheEnd();
    }

    private static void shiftsToTheEnd() {
        HalfAsleep x = new HalfAsleep();
        int[] wrong = {0, 41, -1, MIN, MAX};
        for (int n : wrong) {
            due("shifts(" + n + ")", x.shifts(n), BAD);
        }
        for (int k = 1; k <= 249; k++) {
            due("shifts(40)", x.shifts(40), 40 * k);
        }
        due("shifts(40) at 9960", x.shifts(40), NO);
        due("SHIFT stays", x.count(3), 9960);
        due("shifts(39)", x.shifts(39), 9999);
        due("shifts(1) at 9999", x.shifts(1), NO);
        due("shifts(41) at 9999", x.shifts(41), BAD);
        due("RIGHT is awake in 9999", x.see(0, 0), 1);
        due("RIGHT knows", x.half(0, 1, 1), 1);
        due("knows(1, 0, 0) beyond", x.knows(1, 0, 0), 1);
        due("could(40, 1) beyond", x.could(40, 1), 1);
        due("alike(0) beyond", x.alike(0), 1);
        due("done(0, 0) from 9999", x.done(0, 0), 3);
        due("month beyond", x.month(5, 60, 0, 0), 255);
        due("SHIFT", x.count(3), 9999);
    }

    private static void done() {
        CHECK.about("11 done");
        HalfAsleep x = laid("p1,2;p3,3;p0,1;c1;j00000000;j01010101;j2;j02;");
        due("one half alone, from its own SHIFT", x.done(0, 0), 15);
        due("turns", x.done(0, 1), 8);
        due("no SKILL", x.done(0, 2), NONE);
        due("no SKILL for the last STEP", x.done(0, 3), NONE);
        due("both can", x.done(1, 1), 8);
        due("RIGHT alone", x.done(2, 0), 16);
        x.shifts(1);
        due("LEFT alone from a day on", x.done(0, 0), 16);
        due("turns from a day on", x.done(0, 1), 9);
        due("RIGHT alone from a day on", x.done(2, 0), 15);
        HalfAsleep y = laid("p1,2;c8;j00000000;j00000001;j10000000;j0;");
        due("all in one SHIFT", y.done(0, 0), 1);
        due("in two", y.done(0, 1), 2);
        due("a SHIFT without a STEP", y.done(0, 2), 3);
        due("a STEP", y.done(0, 3), 1);
        HalfAsleep z = laid("p1,2;j0000;j000;j00011;p32,32;j555555;");
        due("C is 3 without: four STEPS", z.done(0, 0), 3);
        due("three STEPS", z.done(0, 1), 1);
        due("three and two", z.done(0, 2), 2);
        due("a half stops at C though it could go on", z.done(1, 3), 2);
        int[][] wrong = {{2, 0}, {-1, 0}, {0, 4}, {0, -1}, {MAX, 0}, {MIN, 0}, {0, MAX}, {0, MIN}};
        for (int[] w : wrong) {
            due("done" + List.of(w[0], w[1]), z.done(w[0], w[1]), BAD);
        }
        due("done without TRADES", laid("p1,1;").done(0, 0), BAD);
    }

    private static void handed() {
        CHECK.about("12 handed");
        HalfAsleep x = laid("p1,2;p3,2;p3,3;p1,0;j01010101;j00110;j1;j012;");
        due("turns", x.handed(0, 0), 7);
        due("LEFT can all", x.handed(1, 0), 0);
        due("both can all", x.handed(2, 0), 0);
        due("there and back", x.handed(0, 1), 2);
        due("one STEP of RIGHT", x.handed(0, 2), 0);
        due("no SKILL", x.handed(3, 2), NONE);
        due("no SKILL at the end", x.handed(2, 3), NONE);
        due("a SHIFT changes nothing", x.shifts(1), 1);
        due("turns by day", x.handed(0, 0), 7);
        // greedy from either end would pay more: RIGHT begins, LEFT has all but the first
        HalfAsleep y = laid("p30,35;j0123;j0152;j2151;");
        due("RIGHT, then LEFT", y.handed(0, 0), 1);
        due("RIGHT to 5, then LEFT", y.handed(0, 1), 1);
        due("LEFT, RIGHT, LEFT or RIGHT", y.handed(0, 2), 1);
        int[][] wrong = {{1, 0}, {-1, 0}, {0, 3}, {0, -1}, {MAX, 0}, {MIN, 0}, {0, MAX}, {0, MIN}};
        for (int[] w : wrong) {
            due("handed" + List.of(w[0], w[1]), y.handed(w[0], w[1]), BAD);
        }
    }

    private static void best() {
        CHECK.about("13 best");
        HalfAsleep x = laid("p2,1;p1,2;p1,2;p0,0;j0;j1;j5;j01;");
        due("LEFT of 1", x.best(0), 1);
        due("LEFT of 0", x.best(1), 0);
        due("nobody", x.best(2), NONE);
        due("the lowest of two", x.best(3), 1);
        x.shifts(1);
        due("by day RIGHT of 0", x.best(0), 0);
        due("by day RIGHT of 1", x.best(1), 1);
        due("by day 0", x.best(3), 0);
        int[] wrong = {4, -1, MAX, MIN};
        for (int j : wrong) {
            due("best(" + j + ")", x.best(j), BAD);
        }
        due("best without TRADES", laid("p1,1;").best(0), BAD);
    }

    private static void knows() {
        CHECK.about("14 knows");
        HalfAsleep x = laid("p1,1;p1,1;n1;k0,0,15;k0,1,240;k1,0,255;");
        due("knows(0, 0, 0)", x.knows(0, 0, 0), 15);
        due("knows(1, 0, 0)", x.knows(1, 0, 0), 31);
        due("knows(1, 0, 1)", x.knows(1, 0, 1), 241);
        due("knows(3, 1, 1)", x.knows(3, 1, 1), 7);
        due("knows(7, 1, 1)", x.knows(7, 1, 1), 127);
        due("knows(40, 1, 1)", x.knows(40, 1, 1), 255);
        x.note(1, 7);
        due("with a NOTE", x.knows(1, 1, 1), 129);
        due("with a NOTE, now", x.knows(0, 1, 1), 0);
        due("nothing changes", x.count(3), 0);
        due("the NOTE still hangs", x.half(1, 1, 2), 128);
        due("known now", x.half(1, 1, 1), 0);
        int[][] wrong = {{41, 0, 0}, {-1, 0, 0}, {0, 2, 0}, {0, -1, 0}, {0, 0, 2}, {0, 0, -1},
            {MAX, 0, 0}, {MIN, 0, 0}, {0, MAX, 0}, {0, MIN, 0}, {0, 0, MAX}, {0, 0, MIN}};
        for (int[] w : wrong) {
            due("knows" + List.of(w[0], w[1], w[2]), x.knows(w[0], w[1], w[2]), BAD);
        }
    }

    private static void could() {
        CHECK.about("15 could");
        HalfAsleep x = laid("p1,1;p1,1;p1,1;n0;k0,0,3;k1,1,3;k2,0,1;k2,1,2;");
        due("could(0, 0)", x.could(0, 0), 7);
        due("could(0, 1)", x.could(0, 1), 5);
        due("could(0, 3)", x.could(0, 3), 1);
        due("could(1, 3)", x.could(1, 3), 2);
        due("could(1, 2)", x.could(1, 2), 6);
        due("could(40, 1)", x.could(40, 1), 5);
        due("could(39, 1)", x.could(39, 1), 2);
        due("could(0, 255)", x.could(0, 255), 0);
        x.note(2, 0);
        due("with a NOTE", x.could(1, 3), 6);
        due("without it", x.could(2, 3), 1);
        x.shifts(1);
        due("by day", x.could(0, 3), 6);
        due("by the night behind it", x.could(1, 3), 1);
        int[][] wrong = {{41, 0}, {-1, 0}, {0, 256}, {0, -1}, {MAX, 0}, {MIN, 0}, {0, MAX}, {0, MIN}};
        for (int[] w : wrong) {
            due("could" + List.of(w[0], w[1]), x.could(w[0], w[1]), BAD);
        }
    }

    private static void alike() {
        CHECK.about("16 alike");
        HalfAsleep x = laid("p1,1;p1,1;p1,1;n1;k0,0,255;k1,0,3;k1,1,48;k2,0,9;k2,1,9;");
        due("eight to tell", x.alike(0), 8);
        due("two and two", x.alike(1), 2);
        due("alike now", x.alike(2), 0);
        x.note(0, 7);
        due("seven to tell", x.alike(0), 7);
        due("nothing changes", x.count(3), 0);
        HalfAsleep y = laid("p1,1;p1,1;n0;k0,0,3;k1,1,3;");
        due("nothing is told", y.alike(0), NONE);
        y.note(0, 0);
        due("a NOTE is not enough", y.alike(0), NONE);
        y.note(0, 1);
        due("two NOTES are", y.alike(0), 1);
        due("the other one", y.alike(1), NONE);
        int[] wrong = {3, -1, MAX, MIN};
        for (int i : wrong) {
            due("alike(" + i + ")", x.alike(i), BAD);
        }
    }

    private static void purse() {
        CHECK.about("17 purse");
        HalfAsleep x = laid("p1,1;u11,2,9;");
        due("purse(0, 0, 0)", x.purse(0, 0, 0), 5);
        due("purse(0, 0, 1)", x.purse(0, 0, 1), 5);
        due("purse(3, 4, 0)", x.purse(3, 4, 0), 8);
        due("purse(3, 4, 1)", x.purse(3, 4, 1), 38);
        due("purse(2, 9, 0)", x.purse(2, 9, 0), 4);
        due("purse(2, 9, 1)", x.purse(2, 9, 1), 81);
        due("purse(3, 9, 0)", x.purse(3, 9, 0), 0);
        due("purse(3, 9, 1)", x.purse(3, 9, 1), 0);
        HalfAsleep y = laid("p1,1;u0,9,9;");
        due("an empty PURSE", y.purse(0, 0, 0), 0);
        due("an empty PURSE, more wanted", y.purse(1, 0, 0), 0);
        due("a full PURSE", laid("p1,1;u20,9,9;").purse(9, 9, 1), 82);
        int[][] wrong = {{10, 0, 0}, {-1, 0, 0}, {0, 10, 0}, {0, -1, 0}, {0, 0, 2}, {0, 0, -1},
            {MAX, 0, 0}, {MIN, 0, 0}, {0, MAX, 0}, {0, MIN, 0}, {0, 0, MAX}, {0, 0, MIN}, {MAX, MAX, 0}};
        for (int[] w : wrong) {
            due("purse" + List.of(w[0], w[1], w[2]), x.purse(w[0], w[1], w[2]), BAD);
        }
    }

    private static void rests() {
        CHECK.about("18 rests");
        // by 10, 2, 3 the RESTS are those where all is taken
        HalfAsleep x = laid("p1,1;u10,2,3;");
        due("rests(0)", x.rests(0), 9);
        due("rests(1)", x.rests(1), 1);
        due("rests(2)", x.rests(2), 9);
        HalfAsleep none = laid("p1,1;u0,1,1;");
        due("all are RESTS", none.rests(0), 100);
        due("the first, x", none.rests(1), 0);
        due("the first, y", none.rests(2), 0);
        HalfAsleep full = laid("p1,1;u20,9,9;");
        due("one REST", full.rests(0), 1);
        due("its x", full.rests(1), 9);
        due("its y", full.rests(2), 9);
        HalfAsleep uneven = laid("p1,1;u19,1,2;");
        // if RIGHT takes 9, LEFT has 9 + 0 by 9 and 8 + 1 by 8; RIGHT has most only by 9
        due("uneven", uneven.rests(0), 2);
        due("uneven, x", uneven.rests(1), 8);
        due("uneven, y", uneven.rests(2), 9);
        HalfAsleep seven = laid("p1,1;u7,1,1;");
        due("by 7", seven.rests(0), 17);
        due("by 7, x", seven.rests(1), 0);
        due("by 7, y", seven.rests(2), 7);
        int[] wrong = {3, -1, MAX, MIN};
        for (int what : wrong) {
            due("rests(" + what + ")", x.rests(what), BAD);
        }
    }

    private static void camps() {
        CHECK.about("19 camps");
        HalfAsleep x = laid("p1,1;p1,1;p1,1;");
        due("nobody MARRIED", x.camps(0), 0);
        due("the lowest way", x.camps(1), 0);
        HalfAsleep cross = laid("p1,1;p1,1;p1,1;m0,0,1,1;m1,0,2,0;");
        // LEFT halves of 1 and 2 are in one camp, that of 0 in the other one: 6 or 1
        due("none PARTS", cross.camps(0), 0);
        due("the way", cross.camps(1), 1);
        HalfAsleep odd = laid("p1,1;p1,1;m0,0,1,0;m0,0,1,1;");
        due("one PARTS always", odd.camps(0), 1);
        due("the lowest of several", odd.camps(1), 0);
        HalfAsleep twice = laid("p1,1;p1,1;m0,0,1,0;m0,0,1,1;m1,1,0,0;");
        due("a pair told twice counts twice", twice.camps(0), 1);
        due("its way", twice.camps(1), 1);
        HalfAsleep five = laid("p1,1;p1,1;p1,1;p1,1;p1,1;m4,0,0,1;m4,0,1,1;m4,1,2,1;m4,1,3,1;");
        due("five", five.camps(0), 0);
        due("five, the way", five.camps(1), 3);
        int[] wrong = {2, -1, MAX, MIN};
        for (int what : wrong) {
            due("camps(" + what + ")", x.camps(what), BAD);
        }
    }

    private static void seen() {
        CHECK.about("20 seen");
        HalfAsleep x = laid("p1,1;");
        int[][] wrong = {{41, 0}, {-1, 0}, {0, 256}, {0, -1}, {MAX, 0}, {MIN, 0}, {0, MAX}, {0, MIN}};
        for (int[] w : wrong) {
            due("seen" + List.of(w[0], w[1]), x.seen(w[0], w[1]), BAD);
        }
        due("none yet", x.count(4), 0);
        for (int k = 1; k <= 10; k++) {
            due("seen no. " + k, x.seen(4 * k, 255), k);
        }
        due("an eleventh", x.seen(0, 0), FULL);
        due("still ten", x.count(4), 10);
        due("a wrong eleventh", x.seen(41, 0), BAD);
    }

    private static void forget() {
        CHECK.about("21 forget");
        HalfAsleep x = laid("p1,1;");
        due("none", x.forget(), 0);
        x.seen(0, 1);
        x.seen(0, 1);
        due("two", x.forget(), 2);
        due("none left", x.count(4), 0);
        due("all fit again", x.fits(), 1);
        due("forget again", x.forget(), 0);
        due("seen", x.seen(0, 0), 1);
    }

    private static void fits() {
        CHECK.about("22 fits");
        HalfAsleep x = laid("p1,1;p1,1;p1,1;n1;k0,0,3;k1,1,3;k2,0,1;k2,1,2;");
        due("no DEEDS", x.fits(), 7);
        x.seen(0, 1);
        due("LEFT knows 0", x.fits(), 5);
        x.seen(1, 2);
        due("RIGHT knows 1 behind an END", x.fits(), 4);
        x.forget();
        x.seen(2, 3);
        due("behind two ENDS all", x.fits(), 7);
        x.see(1, 0);
        x.note(0, 1);
        x.shifts(3);
        due("what is done since changes nothing", x.fits(), 7);
        x.seen(0, 1);
        due("as it was LAID", x.fits(), 5);
        x.wipe();
        due("wipe changes nothing", x.fits(), 5);
        x.seen(40, 255);
        due("nobody", x.fits(), 0);
        due("new objects", new HalfAsleep().fits(), 1);
    }

    private static void least() {
        CHECK.about("23 least");
        HalfAsleep x = laid("p1,1;p1,1;p1,1;p1,1;p1,1;n0;k0,0,1;k1,0,2;k2,0,3;k3,0,12;k4,0,5;");
        due("no DEEDS", x.least(), 0);
        x.seen(0, 1);
        due("one, the lowest", x.least(), 1);
        x.seen(0, 2);
        due("one who knows both", x.least(), 4);
        x.seen(0, 8);
        due("two", x.least(), 12);
        x.seen(0, 5);
        due("fewest is three", x.least(), 26);
        x.seen(0, 16);
        due("nobody", x.least(), NONE);
        due("five DEEDS", x.forget(), 5);
        x.seen(1, 0);
        due("a DEED that needs nothing", x.least(), 1);
        x.seen(1, 1);
        due("RIGHT knows nothing", x.least(), NONE);
        HalfAsleep five = laid("p1,1;p1,1;p1,1;p1,1;p1,1;n0;k0,0,1;k1,0,2;k2,0,4;k3,0,8;k4,0,16;");
        for (int k = 0; k < 5; k++) {
            five.seen(2 * k, 1 << k);
        }
        due("all five", five.least(), 31);
    }

    private static void month() {
        CHECK.about("24 month");
        HalfAsleep x = laid("p1,1;p1,1;p1,1;n0;");
        // z 0, k 0: x is 1, DRAW 1: FACT 1 by PERSON 0
        due("month(0, 1, 0, 0)", x.month(0, 1, 0, 0), 2);
        due("month(0, 1, 0, 1)", x.month(0, 1, 0, 1), 0);
        due("month(0, 1, 1, 0)", x.month(0, 1, 1, 0), 0);
        // k 1: x is 6152, DRAW 6152^2 mod 65521 = 41487: FACT 7, 5185 mod 3 is 1
        due("month(0, 2, 1, 1)", x.month(0, 2, 1, 1), 128);
        due("month(0, 2, 0, 0)", x.month(0, 2, 0, 0), 2);
        due("nothing changes", x.half(0, 0, 1), 0);
        due("SHIFT stays", x.count(3), 0);
        // z 9999: x is 79182082, DRAW 51303: FACT 7, 6412 mod 3 is 1
        due("month(9999, 1, 1, 0)", x.month(9999, 1, 1, 0), 128);
        x.see(1, 6);
        x.note(1, 6);
        due("NOTES are told", x.month(0, 1, 1, 1), 64);
        due("NOTES hang still", x.half(1, 1, 2), 64);
        x.shifts(1);
        due("by day RIGHT sees", x.month(0, 1, 0, 1), 2);
        due("by day LEFT does not", x.month(0, 1, 0, 0), 0);
        int[][] wrong = {{-1, 1, 0, 0}, {10000, 1, 0, 0}, {0, 0, 0, 0}, {0, 61, 0, 0}, {0, 1, 3, 0}, {0, 1, -1, 0},
            {0, 1, 0, 2}, {0, 1, 0, -1}, {MAX, 1, 0, 0}, {MIN, 1, 0, 0}, {0, MAX, 0, 0}, {0, MIN, 0, 0},
            {0, 1, MAX, 0}, {0, 1, MIN, 0}, {0, 1, 0, MAX}, {0, 1, 0, MIN}};
        for (int[] w : wrong) {
            due("month" + List.of(w[0], w[1], w[2], w[3]), x.month(w[0], w[1], w[2], w[3]), BAD);
        }
    }

    private static void keepAndBack() {
        CHECK.about("25, 26 keep, back");
        HalfAsleep x = laid("p1,1;p1,1;n0;");
        due("back() of none", x.back(), NO);
        x.see(0, 0);
        x.note(0, 0);
        due("keep()", x.keep(), 1);
        x.shifts(1);
        x.see(1, 3);
        x.note(1, 3);
        x.seen(0, 1);
        due("keep()", x.keep(), 2);
        x.shifts(2);
        x.see(1, 5);
        due("keep() of a third", x.keep(), FULL);
        due("nothing changes", x.count(3), 3);
        due("back()", x.back(), 1);
        due("SHIFT", x.count(3), 1);
        due("RIGHT of 1", x.half(1, 1, 1), 8);
        due("RIGHT of 0", x.half(0, 1, 1), 1);
        due("hangs for LEFT of 1", x.half(1, 0, 2), 8);
        due("DEEDS are not KEPT", x.count(4), 1);
        x.see(1, 7);
        due("keep() again", x.keep(), 2);
        due("back() again", x.back(), 1);
        due("as KEPT last", x.half(1, 1, 1), 136);
        due("back()", x.back(), 0);
        due("SHIFT", x.count(3), 0);
        due("LEFT of 0", x.half(0, 0, 1), 1);
        due("RIGHT of 0", x.half(0, 1, 1), 0);
        due("hangs for RIGHT of 0", x.half(0, 1, 2), 1);
        due("RIGHT of 1", x.half(1, 1, 1), 0);
        due("nothing hangs for LEFT of 1", x.half(1, 0, 2), 0);
        due("back() of none", x.back(), NO);
        x.see(0, 4);
        x.keep();
        x.see(0, 5);
        x.lay();
        due("lay keeps nothing", x.back(), NO);
    }

    private static void count() {
        CHECK.about("27 count");
        HalfAsleep x = laid("p1,1;p1,1;p1,1;j0;j1;m0,0,1,0;m0,0,1,0;c7;n5;");
        x.shifts(9);
        x.seen(0, 0);
        x.seen(0, 0);
        x.seen(0, 0);
        x.keep();
        int[] counts = {3, 2, 2, 9, 3, 1, 45, 7, 5};
        for (int what = 0; what < counts.length; what++) {
            due("count(" + what + ")", x.count(what), counts[what]);
        }
        int[] wrong = {9, -1, MAX, MIN};
        for (int what : wrong) {
            due("count(" + what + ")", x.count(what), BAD);
        }
        HalfAsleep most = laid("p1,1;".repeat(5) + "j0;".repeat(4) + "m0,0,1,0;".repeat(8));
        due("PERSONS", most.count(0), 5);
        due("TRADES", most.count(1), 4);
        due("pairs", most.count(2), 8);
    }

    private static void orderOfRefusals() {
        CHECK.about("the order BAD, NO, NONE, FULL");
        HalfAsleep x = laid("p0,0;p0,0;j0;n0;k0,0,1;");
        due("note(2, 5)", x.note(2, 5), BAD);
        due("done(2, 0): BAD ahead of NONE", x.done(2, 0), BAD);
        due("done(0, 1): BAD ahead of NONE", x.done(0, 1), BAD);
        due("handed(0, 1): BAD ahead of NONE", x.handed(0, 1), BAD);
        due("done(0, 0)", x.done(0, 0), NONE);
        due("handed(0, 0)", x.handed(0, 0), NONE);
        due("best(0)", x.best(0), NONE);
        due("best(1)", x.best(1), BAD);
    }
}
