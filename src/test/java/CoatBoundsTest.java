/** The boundary sentences of promises 5, 6, 21 and 29: coats, what is told of them, late ones, kinds. */
public final class CoatBoundsTest extends Calls {

    /** Two hanks and three coats, one of them done; an image of before. */
    private static SleeveDarker some() {
        SleeveDarker x = withHanks(50, 50, 0, 60, 50, 0);
        x.coat(0, 1, 5);
        x.coat(4, 2, 3007);
        x.coat(5, 9, 20999);
        x.image();
        x.knit(1, parting(1, 1, 0, 0, 1), 8);
        return x;
    }

    private static SleeveDarker full() {
        SleeveDarker x = withHanks(50, 50, 0, 60, 50, 0);
        for (int i = 0; i < 8; i++) {
            x.coat(i % 6, i + 1, 1000 * i + i);
        }
        return x;
    }

    private static SleeveDarker ofOne(int kind, int size, int rest) {
        SleeveDarker x = new SleeveDarker();
        due("coat", x.coat(kind, size, rest), 0);
        return x;
    }

    // Promise 5: "a KIND: 0 .. 5; a SIZE (1 .. 9), a NUMBER (0 .. 20), a WORTH (0 .. 999)"; "BAD; FULL"
    private static void boundsOfACoat() {
        int[][] bad = {{-1, 5, 5005}, {6, 5, 5005}, {LOW, 5, 5005}, {HIGH, 5, 5005},
            {0, 0, 5005}, {0, 10, 5005}, {0, -1, 5005}, {0, LOW, 5005}, {0, HIGH, 5005},
            {0, 5, -1}, {0, 5, 21000}, {0, 5, 21999}, {0, 5, -1000}, {0, 5, -999}, {0, 5, LOW}, {0, 5, HIGH}};
        for (int[] each : bad) {
            String call = "coat " + each[0] + " " + each[1] + " " + each[2];
            refused(call, CoatBoundsTest::some, BAD, x -> x.coat(each[0], each[1], each[2]));
            refused(call + " ahead of full", CoatBoundsTest::full, BAD, x -> x.coat(each[0], each[1], each[2]));
        }
        int[][] sound = {{0, 5, 5005}, {5, 5, 5005}, {0, 1, 5005}, {0, 9, 5005}, {0, 5, 0}, {0, 5, 20999}, {0, 5, 999},
            {0, 5, 1000}, {0, 5, 20000}};
        for (int[] each : sound) {
            SleeveDarker x = some();
            due("coat " + each[0] + " " + each[1] + " " + each[2], x.coat(each[0], each[1], each[2]), 3);
            due("its kind", x.told(3, 0), each[0]);
            due("its size", x.told(3, 1), each[1]);
            due("its number", x.told(3, 2), each[2] / 1000);
            due("its worth", x.taken(3, 0), each[2] % 1000);
            due("not done", x.told(3, 6), 0);
        }
    }

    // "COATS (8 at most, numbered from 0)"
    private static void eightCoatsAtMost() {
        SleeveDarker x = new SleeveDarker();
        for (int i = 0; i < 8; i++) {
            due("coat " + i, x.coat(i % 6, i + 1, 1000 * i + i), i);
            due("coats", x.count(1), i + 1);
        }
        for (int i = 0; i < 8; i++) {
            due("kind of " + i, x.told(i, 0), i % 6);
            due("size of " + i, x.told(i, 1), i + 1);
            due("number of " + i, x.told(i, 2), i);
            due("worth of " + i, x.taken(i, 0), i);
        }
        refused("coat 9", CoatBoundsTest::full, FULL, y -> y.coat(0, 1, 0));
    }

    // Promise 6: "-5: none such."
    private static void toldRefused() {
        int[] none = {-1, 3, 8, LOW, HIGH};
        int[] whats = {0, 3, 4, 5, 6, 10, 14, 20, 25};
        for (int coat : none) {
            for (int what : whats) {
                due("told of " + coat, some().told(coat, what), NO_SUCH);
            }
        }
        int[] nothing = {-1, 7, 8, 9, 15, 19, 26, 30, LOW, HIGH, -10, -20};
        for (int what : nothing) {
            refused("told " + what, CoatBoundsTest::some, NO_SUCH, x -> x.told(0, what));
            due("told " + what + " of none", some().told(3, what), NO_SUCH);
        }
        due("told of 7 of eight", full().told(7, 1), 8);
        due("told of 8 of eight", full().told(8, 1), NO_SUCH);
        due("told of 0 of none", new SleeveDarker().told(0, 0), NO_SUCH);
    }

    private static void takesDue(int kind, int size, int rest, int... parts) {
        SleeveDarker x = ofOne(kind, size, rest);
        int all = 0;
        for (int part = 0; part < 5; part++) {
            due("kind " + kind + " size " + size + " number " + rest / 1000 + " takes for " + part,
                    x.told(0, 10 + part), parts[part]);
            all += parts[part];
        }
        due("kind " + kind + " size " + size + " takes in all", x.told(0, 4), all);
    }

    // TAKES
    private static void takes() {
        for (int kind : new int[] {0, 1, 2, 4}) {
            for (int number : new int[] {0, 20}) {
                takesDue(kind, 1, 1000 * number, 2, 2, 2, 2, 1);
                takesDue(kind, 9, 1000 * number, 10, 10, 18, 18, 1);
            }
        }
        takesDue(5, 1, 0, 3, 3, 3, 3, 2);
        takesDue(5, 9, 20999, 11, 11, 19, 19, 2);
    }

    // "BEGUN: as a COAT, but nothing for PARTS that are knitted (bits of NUMBER)"
    private static void takesOfBegun() {
        for (int number = 0; number <= 20; number++) {
            int[] parts = {4, 4, 6, 6, 1};
            for (int part = 0; part < 5; part++) {
                if ((number >> part & 1) == 1) {
                    parts[part] = 0;
                }
            }
            takesDue(3, 3, 1000 * number, parts);
        }
        takesDue(3, 9, 0, 10, 10, 18, 18, 1);
        takesDue(3, 9, 1000, 0, 10, 18, 18, 1);
        takesDue(3, 9, 2000, 10, 0, 18, 18, 1);
        takesDue(3, 9, 4000, 10, 10, 0, 18, 1);
        takesDue(3, 9, 8000, 10, 10, 18, 0, 1);
        takesDue(3, 9, 16000, 10, 10, 18, 18, 0);
        takesDue(3, 9, 20999, 10, 10, 0, 18, 0);
        takesDue(3, 9, 15000, 0, 0, 0, 0, 1);
    }

    private static void bearsDue(int kind, int number, int sleeves, int front, int other) {
        SleeveDarker x = ofOne(kind, 5, 1000 * number);
        int[] bears = {sleeves, front, front, other, other, other};
        for (int meeting = 0; meeting < 6; meeting++) {
            due("kind " + kind + " number " + number + " bears at " + meeting, x.told(0, 20 + meeting), bears[meeting]);
        }
    }

    // BEARS; "half (cut)"; "1 less than a BLEND (0 at least)"
    private static void bears() {
        for (int number : new int[] {0, 1, 20}) {
            bearsDue(0, number, 0, 2, 4);
            bearsDue(1, number, number, 2 + number, 4 + number);
            bearsDue(2, number, 1, 3, 5);
            bearsDue(3, number, 0, 2, 4);
            bearsDue(5, number, 0, 2, 4);
        }
        bearsDue(4, 0, 0, 1, 2);
        bearsDue(4, 1, 0, 1, 2);
        bearsDue(4, 2, 1, 2, 3);
        bearsDue(4, 3, 1, 2, 3);
        bearsDue(4, 19, 9, 10, 11);
        bearsDue(4, 20, 10, 11, 12);
    }

    private static void bringsDue(int kind, int number, int worth, int want) {
        due("kind " + kind + " number " + number + " worth " + worth + " brings",
                ofOne(kind, 5, 1000 * number + worth).told(0, 3), want);
    }

    // BRINGS, below 0 too
    private static void brings() {
        for (int kind : new int[] {0, 2, 3}) {
            bringsDue(kind, 0, 0, 0);
            bringsDue(kind, 20, 0, 0);
            bringsDue(kind, 20, 999, 999);
        }
        bringsDue(1, 0, 0, 0);
        bringsDue(1, 0, 999, 999);
        bringsDue(1, 20, 20, 0);
        bringsDue(1, 20, 19, -1);
        bringsDue(1, 20, 0, -20);
        bringsDue(1, 20, 999, 979);
        bringsDue(4, 0, 999, 1998);
        bringsDue(4, 20, 20, 0);
        bringsDue(4, 20, 19, -2);
        bringsDue(4, 20, 0, -40);
        bringsDue(4, 20, 999, 1958);
        bringsDue(5, 0, 0, 0);
        bringsDue(5, 20, 0, 20);
        bringsDue(5, 20, 999, 1019);
    }

    // "bear: (0 .. 99, else the bound)", besides BEARS
    private static void boundsOfBear() {
        String[][] due = {{"0-1", "0"}, {"0", "0"}, {"1", "1"}, {"98", "98"}, {"99", "99"}, {"100", "99"}, {"9999", "99"},
            {"128*256*256*256", "0"}, {"128*256*256*256-1", "99"}, {"256*256*256*256+3", "3"}};
        int[] bears = {20, 22, 22, 24, 24, 24};
        for (String[] each : due) {
            SleeveDarker x = ofOne(1, 5, 20000);
            force(x, "bear " + each[0] + ";seen 0;keep 0;");
            for (int meeting = 0; meeting < 6; meeting++) {
                due("bear " + each[0] + " at " + meeting, x.told(0, 20 + meeting), bears[meeting] + Integer.parseInt(each[1]));
            }
        }
    }

    private static void bearDue(int kind, int rest, String bear, int... want) {
        SleeveDarker x = ofOne(kind, 3, rest);
        force(x, "bear " + bear + ";seen 0;keep 0;");
        int[] bears = kind == 5 ? new int[] {0, 2, 2, 4, 4, 4} : new int[] {3, 4, 4, 5, 5, 5};
        for (int meeting = 0; meeting < 6; meeting++) {
            due("kind " + kind + " bear " + bear + " at " + meeting, x.told(0, 20 + meeting), bears[meeting] + want[meeting]);
        }
    }

    // "ounces: what both PARTS take; apart: BEARS; size; worn: its NUMBER; faded 0; vat: the MEETING"
    private static void namesOfBear() {
        bearDue(4, 7000, "ounces", 8, 10, 10, 12, 7, 7);
        bearDue(5, 7000, "ounces", 10, 12, 12, 14, 9, 9);
        bearDue(4, 7000, "apart", 3, 4, 4, 5, 5, 5);
        bearDue(5, 7000, "apart", 0, 2, 2, 4, 4, 4);
        bearDue(4, 7000, "size", 3, 3, 3, 3, 3, 3);
        bearDue(4, 7000, "worn", 7, 7, 7, 7, 7, 7);
        bearDue(5, 20000, "worn", 20, 20, 20, 20, 20, 20);
        bearDue(4, 7000, "faded", 0, 0, 0, 0, 0, 0);
        bearDue(4, 7000, "faded+9", 9, 9, 9, 9, 9, 9);
        bearDue(4, 7000, "vat", 0, 1, 2, 3, 4, 5);
        // Each part by itself: sleeves 4, 4, front nothing, back 6, collar nothing.
        SleeveDarker x = ofOne(3, 3, 20000);
        force(x, "bear ounces;seen 0;keep 0;");
        int[] due = {8, 6, 6, 10, 4, 10};
        for (int meeting = 0; meeting < 6; meeting++) {
            due("ounces of begun at " + meeting, x.told(0, 20 + meeting), due[meeting]);
        }
        // The second sleeve alone is knitted, or the first.
        x = ofOne(3, 3, 2000);
        force(x, "bear ounces;seen 0;keep 0;");
        due("first sleeve and front", x.told(0, 21), 12);
        due("second sleeve and front", x.told(0, 22), 8);
        due("second sleeve", x.told(0, 20), 4);
        x = ofOne(3, 3, 8000);
        force(x, "bear ounces;seen 0;keep 0;");
        due("front and back, which is knitted", x.told(0, 23), 10);
        due("front and collar", x.told(0, 24), 11);
        due("back and collar", x.told(0, 25), 5);
    }

    // "keep: (0 .. 99, else the bound)"
    private static void boundsOfKeep() {
        String[][] due = {{"0-1", "0"}, {"0", "0"}, {"1", "1"}, {"98", "98"}, {"99", "99"}, {"100", "99"}, {"9999", "99"},
            {"128*256*256*256", "0"}, {"128*256*256*256-1", "99"}, {"256*256*256*256+3", "3"}};
        for (String[] each : due) {
            SleeveDarker x = ofOne(1, 5, 20000);
            force(x, "bear 0;seen 0;keep " + each[0] + ";");
            due("keep " + each[0], x.told(0, 5), Integer.parseInt(each[1]));
        }
    }

    private static void keepDue(int kind, int size, int rest, String keep, int want) {
        SleeveDarker x = ofOne(kind, size, rest);
        force(x, "bear 0;seen 0;keep " + keep + ";");
        due("kind " + kind + " keep " + keep, x.told(0, 5), want);
    }

    // "ounces: what all PARTS take; apart 0; size; worn: NUMBER; faded 0; vat 0"
    private static void namesOfKeep() {
        keepDue(0, 9, 0, "ounces", 57);
        keepDue(5, 9, 0, "ounces", 62);
        keepDue(3, 9, 15000, "ounces", 1);
        keepDue(4, 9, 20000, "apart", 0);
        keepDue(4, 9, 20000, "size", 9);
        keepDue(4, 9, 20000, "worn", 20);
        keepDue(4, 9, 20000, "faded", 0);
        keepDue(4, 9, 20000, "vat", 0);
        keepDue(4, 9, 20000, "apart+5", 5);
        keepDue(4, 9, 20000, "faded+6", 6);
        keepDue(4, 9, 20000, "vat+7", 7);
    }

    // "TEXT 0, at first THE RULE, is: bear 0 ; seen apart ; keep size ;"
    private static void textZero() {
        for (int size = 1; size <= 9; size++) {
            due("keep size by text 0", ofOne(5, size, 20999).told(0, 5), size);
        }
        SleeveDarker x = ofOne(2, 9, 20999);
        due("bear 0 by text 0", x.told(0, 25), 5);
        x.hank(99, 99, 0);
        x.hank(99, 10, 8);
        due("seen apart by text 0", x.seen(0, 1), 89);
    }

    // "6 DONE (1, 0)"
    private static void done() {
        SleeveDarker x = some();
        due("not done", x.told(0, 6), 0);
        due("done", x.told(1, 6), 1);
        x.undo(1);
        due("undone", x.told(1, 6), 0);
        due("laid back", x.back(), 0);
        x = some();
        x.image();
        x.undo(1);
        x.back();
        due("done again", x.told(1, 6), 1);
    }

    // Promise 21: "LATE (day 0 .. 99). BAD."
    private static void lateRefused() {
        int[] bad = {-1, 100, LOW, HIGH};
        for (int day : bad) {
            refused("late " + day, CoatBoundsTest::some, BAD, x -> x.late(day));
        }
        due("late 0 of none", new SleeveDarker().late(0), 0);
        due("late 99 of none", new SleeveDarker().late(99), 0);
    }

    // "by how much the DAY ... is above its NUMBER (0 at least), together"
    private static void late() {
        SleeveDarker x = withHanks(99, 50, 0);
        x.coat(4, 1, 20000);
        due("a day ahead", x.late(19), 0);
        due("on its day", x.late(20), 0);
        due("a day late", x.late(21), 1);
        due("day 0", x.late(0), 0);
        due("day 99", x.late(99), 79);
        x.coat(4, 1, 0);
        due("day 0 of number 0", x.late(0), 0);
        due("day 1 of number 0", x.late(1), 1);
        due("none makes up for another", x.late(10), 10);
        due("together", x.late(99), 79 + 99);
        x.knit(0, 0, 19);
        due("knitted a day ahead", x.late(99), 99);
        x.undo(0);
        x.knit(0, 0, 20);
        due("knitted on its day", x.late(99), 99);
        x.undo(0);
        x.knit(0, 0, 21);
        due("knitted a day late", x.late(99), 1 + 99);
        due("knitted a day late", x.late(0), 1);
        x.knit(1, 0, 99);
        due("knitted on day 99", x.late(0), 1 + 99);
        due("all eight are looked at", lateOfEight(), 8 * 90);
    }

    private static int lateOfEight() {
        SleeveDarker x = new SleeveDarker();
        for (int i = 0; i < 8; i++) {
            x.coat(4, 1, 9000);
        }
        return x.late(99);
    }

    // "of all COATS of KIND 4"
    private static void onlyKindFourIsLate() {
        for (int kind = 0; kind < 6; kind++) {
            due("late of kind " + kind, ofOne(kind, 1, 1000).late(9), kind == 4 ? 8 : 0);
        }
        SleeveDarker x = withHanks(99, 50, 0);
        x.coat(1, 1, 1000);
        x.knit(0, 0, 50);
        due("late of kind 1 that is done", x.late(99), 0);
    }

    // Promise 29: "BAD: k; -11: no such COAT; -13", in this order
    private static void takenRefused() {
        int[] bad = {-1, 6, LOW, HIGH};
        for (int k : bad) {
            refused("taken for " + k, CoatBoundsTest::some, BAD, x -> x.taken(0, k));
            refused("taken for " + k + ", no such coat", CoatBoundsTest::some, BAD, x -> x.taken(3, k));
        }
        int[] none = {-1, 3, 8, LOW, HIGH};
        for (int coat : none) {
            for (int k = 0; k < 6; k++) {
                int kind = k;
                refused("taken of " + coat, CoatBoundsTest::some, -11, x -> x.taken(coat, kind));
            }
        }
        refused("coat taken for striped", CoatBoundsTest::some, -13, x -> x.taken(0, 1));
        refused("promised taken for blend", CoatBoundsTest::some, -13, x -> x.taken(1, 2));
        due("taken of 7 of eight", full().taken(7, 1), 7);
        due("taken of 8 of eight", full().taken(8, 1), -11);
    }

    // "or one under that one (also by others between): its WORTH"
    private static void taken() {
        int[][] kindAndAbove = {{0, 0}, {1, 0}, {1, 1}, {2, 0}, {2, 2}, {3, 0}, {3, 3}, {4, 0}, {4, 1}, {4, 4}, {5, 0}, {5, 2}, {5, 5}};
        for (int kind = 0; kind < 6; kind++) {
            for (int k = 0; k < 6; k++) {
                boolean under = false;
                for (int[] each : kindAndAbove) {
                    under |= each[0] == kind && each[1] == k;
                }
                due("kind " + kind + " taken for " + k, ofOne(kind, 1, 20999).taken(0, k), under ? 999 : -13);
                due("kind " + kind + " of worth 0 taken for " + k, ofOne(kind, 1, 20000).taken(0, k), under ? 0 : -13);
            }
        }
    }

    public static void main(String[] args) {
        boundsOfACoat();
        eightCoatsAtMost();
        toldRefused();
        takes();
        takesOfBegun();
        bears();
        brings();
        boundsOfBear();
        namesOfBear();
        boundsOfKeep();
        namesOfKeep();
        textZero();
        done();
        lateRefused();
        late();
        onlyKindFourIsLate();
        takenRefused();
        taken();
        end();
    }
}
