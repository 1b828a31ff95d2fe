/** The boundary sentences of promises 15 to 18: what is judged, CAN, knitted, undone. */
public final class PartingBoundsTest extends Calls {

    /** Three hanks and four coats, coat 1 done on day 5; an image of before. */
    private static SleeveDarker some() {
        SleeveDarker x = withHanks(20, 50, 0, 20, 50, 0, 5, 55, 1);
        x.coat(0, 1, 10);
        x.coat(0, 2, 20);
        x.coat(5, 1, 3005);
        x.coat(4, 1, 2030);
        x.image();
        x.knit(1, allOf(1), 5);
        return x;
    }

    private static SleeveDarker sixOf(int ounces) {
        return withHanks(ounces, 50, 0, ounces, 50, 0, ounces, 50, 0, ounces, 50, 0, ounces, 50, 0, ounces, 50, 0);
    }

    // Promise 15: "BAD: no such COAT, a PARTING that isn't 0 .. 7775"
    private static void judgeRefused() {
        for (int coat : new int[] {-1, 4, 8, LOW, HIGH}) {
            refused("judge of coat " + coat, PartingBoundsTest::some, BAD, x -> x.judge(coat, 0));
        }
        for (int parting : new int[] {-1, 7776, LOW, HIGH}) {
            refused("judge of " + parting, PartingBoundsTest::some, BAD, x -> x.judge(0, parting));
        }
        refused("judge of nothing", SleeveDarker::new, BAD, x -> x.judge(0, 0));
        SleeveDarker x = sixOf(99);
        x.coat(0, 1, 0);
        due("judge 0", x.judge(0, 0), NONE);
        due("judge 7775", x.judge(0, 7775), NONE);
        due("judge 7774", x.judge(0, 7774), NONE);
        due("judge of a done one", some().judge(1, 0), NONE);
    }

    // "10 and PART: no such HANK"; "digits in base 6, PART 0's the highest"
    private static void noSuchHank() {
        int[] weights = {1296, 216, 36, 6, 1};
        for (int hanks = 1; hanks < 6; hanks++) {
            SleeveDarker x = new SleeveDarker();
            for (int i = 0; i < hanks; i++) {
                x.hank(99, 50, 0);
            }
            x.coat(0, 1, 0);
            for (int part = 0; part < 5; part++) {
                due("the last hank for " + part, x.judge(0, (hanks - 1) * weights[part]), NONE);
                due("no hank for " + part, x.judge(0, hanks * weights[part]), 10 + part);
                due("none of six for " + part, x.judge(0, 5 * weights[part]), 10 + part);
                int andBehind = 0;
                for (int i = part; i < 5; i++) {
                    andBehind += 5 * weights[i];
                }
                due("no hank from " + part + " on", x.judge(0, andBehind), 10 + part);
            }
        }
        // No hank for the last part is told ahead of one that has too few ounces.
        SleeveDarker x = withHanks(0, 50, 0);
        x.coat(0, 1, 0);
        due("parts ahead of hanks", x.judge(0, 1), 14);
        due("hanks then", x.judge(0, 0), 20);
        x = withHanks(99, 10, 0, 99, 90, 0);
        x.coat(0, 1, 0);
        due("parts ahead of meetings", x.judge(0, parting(0, 1, 0, 1, 2)), 14);
    }

    // "20 and HANK: it has fewer OUNCES than all its PARTS take"
    private static void tooFewOunces() {
        for (int hank = 0; hank < 6; hank++) {
            SleeveDarker x = sixOf(99);
            x.coat(0, 1, 0);
            x.ounces(hank, 9);
            due("just enough of " + hank, x.judge(0, allOf(hank)), NONE);
            x.ounces(hank, 8);
            due("one too few of " + hank, x.judge(0, allOf(hank)), 20 + hank);
            x.ounces(hank, 0);
            due("nothing of " + hank, x.judge(0, allOf(hank)), 20 + hank);
            due("enough of another", x.judge(0, allOf((hank + 1) % 6)), NONE);
        }
        SleeveDarker x = sixOf(1);
        x.coat(0, 1, 0);
        due("the lesser hank first", x.judge(0, parting(5, 4, 3, 2, 1)), 22);
        due("hank 1 has enough for the collar", x.judge(0, parting(5, 5, 5, 5, 1)), 25);
        x.ounces(5, 8);
        due("now all have", x.judge(0, parting(5, 5, 5, 5, 1)), NONE);
        x.ounces(1, 0);
        due("not for the collar", x.judge(0, parting(5, 5, 5, 5, 1)), 21);
    }

    // "then MEETINGS: 40 and MEETING: they may not": only this one bears little
    private static void eachMeetingAlone() {
        int[][] meet = {{0, 1}, {0, 2}, {1, 2}, {2, 3}, {2, 4}, {3, 4}};
        int[] bears = {0, 2, 2, 4, 4, 4};
        for (int meeting = 0; meeting < 6; meeting++) {
            SleeveDarker x = withHanks(99, 50, 0, 99, 50 + bears[meeting], 0, 99, 51 + bears[meeting], 0);
            x.coat(0, 1, 0);
            force(x, "bear (1-(vat=" + meeting + "))*99;seen apart;keep 0;");
            for (int bits = 0; bits < 32; bits++) {
                int[] near = new int[5];
                int[] far = new int[5];
                for (int part = 0; part < 5; part++) {
                    near[part] = bits >> part & 1;
                    far[part] = 2 * (bits >> part & 1);
                }
                boolean unlike = near[meet[meeting][0]] != near[meet[meeting][1]];
                due("just as far at " + meeting, x.judge(0, parting(near[0], near[1], near[2], near[3], near[4])), NONE);
                due("one farther at " + meeting, x.judge(0, parting(far[0], far[1], far[2], far[3], far[4])),
                        unlike ? 40 + meeting : NONE);
            }
        }
    }

    /** Where none may meet, the first meeting of unlike hanks is told, behind hanks. */
    private static void theFirstMeeting() {
        SleeveDarker x = withHanks(9, 10, 0, 9, 90, 0);
        x.coat(0, 1, 0);
        due("sleeves", x.judge(0, parting(0, 1, 0, 0, 0)), 40);
        due("sleeves and all", x.judge(0, parting(0, 1, 1, 0, 1)), 40);
        due("front", x.judge(0, parting(0, 0, 1, 1, 1)), 41);
        due("back", x.judge(0, parting(0, 0, 0, 1, 0)), 43);
        due("back and collar", x.judge(0, parting(0, 0, 0, 1, 1)), 43);
        due("collar", x.judge(0, parting(0, 0, 0, 0, 1)), 44);
        x.ounces(1, 0);
        due("hanks ahead of meetings", x.judge(0, parting(0, 1, 0, 0, 0)), 21);
    }

    // "(PARTS that take nothing are looked at likewise.)"
    private static void partsThatTakeNothing() {
        for (int part = 0; part < 5; part++) {
            if (part == 3) {
                continue;
            }
            SleeveDarker x = withHanks(99, 50, 0, 0, 90, 0, 0, 50, 0);
            x.coat(3, 1, 1000 << part);
            int[] weights = {1296, 216, 36, 6, 1};
            due("a hank without ounces for part " + part, x.judge(0, 2 * weights[part]), NONE);
            due("no hank for part " + part, x.judge(0, 3 * weights[part]), 10 + part);
            int[] first = {40, 40, 41, 43, 44};
            due("its meeting of part " + part, x.judge(0, weights[part]), first[part]);
        }
        SleeveDarker x = withHanks(1, 50, 0, 0, 50, 0);
        x.coat(3, 1, 15000);
        due("only the collar takes", x.judge(0, parting(1, 1, 1, 1, 0)), NONE);
        due("the collar of nothing", x.judge(0, parting(0, 0, 0, 0, 1)), 21);
    }

    // Promise 16: "BAD; NONE (what 2: 0)."
    private static void canRefused() {
        for (int coat : new int[] {-1, 4, 8, LOW, HIGH}) {
            for (int what = -1; what < 4; what++) {
                int asked = what;
                refused("can of coat " + coat, PartingBoundsTest::some, BAD, x -> x.can(coat, asked));
            }
        }
        for (int what : new int[] {-1, 3, LOW, HIGH}) {
            refused("can " + what, PartingBoundsTest::some, BAD, x -> x.can(0, what));
        }
        SleeveDarker x = withCoat(withHanks(8, 50, 0, 8, 90, 0), 0, 1, 0);
        due("can none", x.can(0, 0), NONE);
        due("can none, bits", x.can(0, 1), NONE);
        due("can none, ways", x.can(0, 2), 0);
    }

    private static SleeveDarker withCoat(SleeveDarker x, int kind, int size, int rest) {
        x.coat(kind, size, rest);
        return x;
    }

    private static void canDue(String name, SleeveDarker x, int parting, int bits, int ways) {
        due(name + ": parting", x.can(0, 0), parting);
        due(name + ": bits", x.can(0, 1), bits);
        due(name + ": ways", x.can(0, 2), ways);
    }

    // "those that then are left, if these are 1 or 2"
    private static void bitsOfOne() {
        int[] bits = {0, 1, 2, 0, 0};
        canDue("8 of 9", withCoat(withHanks(8, 50, 0), 0, 1, 0), NONE, NONE, 0);
        for (int left = 0; left < 5; left++) {
            canDue(left + " left", withCoat(withHanks(9 + left, 50, 0), 0, 1, 0), 0, bits[left], 1);
        }
        canDue("nothing there", withCoat(withHanks(0, 50, 0), 0, 1, 0), NONE, NONE, 0);
    }

    /** Only the back may be of another hank: 11 of the one and 4 of the other. */
    private static SleeveDarker backOfAnother(int ounces, int others) {
        SleeveDarker x = withCoat(withHanks(ounces, 50, 0, others, 90, 0), 0, 2, 0);
        force(x, "bear (vat=3 or vat=5)*99;seen apart;keep 0;");
        return x;
    }

    // "together"
    private static void bitsTogether() {
        int back = parting(0, 0, 0, 1, 0);
        int[][] due = {{11, 4, 0}, {12, 4, 1}, {11, 5, 1}, {12, 5, 2}, {13, 4, 2}, {13, 5, 3}, {12, 6, 3}, {13, 6, 4},
            {14, 4, 0}, {14, 5, 1}, {14, 6, 2}, {12, 7, 1}, {13, 7, 2}, {14, 7, 0}};
        for (int[] each : due) {
            canDue(each[0] + " and " + each[1], backOfAnother(each[0], each[1]), back, each[2], 1);
        }
        canDue("10 and 4", backOfAnother(10, 4), NONE, NONE, 0);
        canDue("11 and 3", backOfAnother(11, 3), NONE, NONE, 0);
        canDue("turned", backOfAnother(4, 11), parting(1, 1, 1, 0, 1), 0, 1);
        // All of hank 0 leaves 1, the back of the other 5 and 2.
        canDue("16 and 6", backOfAnother(16, 6), 0, 1, 2);
        canDue("16 and 8", backOfAnother(16, 8), back, 0, 2);
        canDue("16 and 5: like ones", backOfAnother(16, 5), 0, 1, 2);
    }

    // "of HANKS of which some PART takes OUNCES"
    private static void bitsOfUsedHanks() {
        canDue("2 of another that is not used", withCoat(withHanks(9, 50, 0, 2, 90, 0), 0, 1, 0), 0, 0, 1);
        // The sleeves are knitted: they take nothing, of whichever hank. Front 2, back 2, collar 1.
        SleeveDarker x = withCoat(withHanks(2, 50, 0, 8, 50, 0), 3, 1, 3000);
        due("nothing taken of hank 0 for the sleeves", x.can(0, 0), parting(0, 0, 0, 1, 1));
        due("its bits", x.can(0, 1), 0);
        x.ounces(0, 1);
        x.ounces(1, 7);
        due("sleeves of a hank of 1, the collar too", x.can(0, 0), parting(0, 0, 1, 1, 0));
        x.ounces(1, 10);
        due("as many left of the other", x.can(0, 0), parting(0, 0, 1, 1, 0));
        x = withCoat(withHanks(2, 50, 0, 1, 50, 0), 3, 1, 15000);
        canDue("the collar of a hank of 1 leaves none", x, parting(0, 0, 0, 0, 1), 0, 32);
        x.ounces(1, 0);
        canDue("the collar of a hank of 2 leaves 1", x, 0, 1, 16);
        x.ounces(0, 0);
        canDue("no collar", x, NONE, NONE, 0);
    }

    // "of like ones the first as digits; how many there are"
    private static void firstAndHowMany() {
        canDue("six like ones", withCoat(sixOf(99), 0, 1, 0), 0, 0, 7776);
        canDue("six like ones of 9", withCoat(sixOf(9), 0, 1, 0), 0, 0, 7776);
        canDue("the last alone", withCoat(withHanks(0, 50, 0, 0, 50, 0, 0, 50, 0, 0, 50, 0, 0, 50, 0, 9, 50, 0), 0, 1, 0), 7775, 0, 1);
        canDue("six unlike ones", withCoat(withHanks(9, 0, 0, 9, 10, 0, 9, 20, 0, 9, 30, 0, 9, 40, 0, 9, 50, 0), 0, 1, 0), 0, 0, 6);
        canDue("one of four", withCoat(withHanks(10, 0, 0, 11, 10, 0, 9, 20, 0, 9, 30, 0), 0, 1, 0), allOf(2), 0, 4);
        canDue("the least bits", withCoat(withHanks(11, 0, 0, 10, 10, 0, 10, 20, 0), 0, 1, 0), allOf(1), 1, 3);
        // Two of six: all but the collar of one is as good as all of one, but comes later.
        canDue("the first of 32", withCoat(withHanks(99, 50, 0, 99, 50, 0), 0, 9, 0), 0, 0, 32);
        SleeveDarker x = withHanks(9, 50, 0, 9, 50, 0, 9, 50, 0);
        canDue("3 to the 5th", withCoat(x, 0, 1, 0), 0, 0, 243);
    }

    // Two hanks that may meet at all meetings but one are parted in 32 ways, less those that are unlike there
    private static void canAtEachMeeting() {
        int[] bears = {0, 2, 2, 4, 4, 4};
        for (int meeting = 0; meeting < 6; meeting++) {
            SleeveDarker x = withCoat(withHanks(99, 50, 0, 99, 50 + bears[meeting], 0), 0, 1, 0);
            force(x, "bear (1-(vat=" + meeting + "))*99;seen apart;keep 0;");
            canDue("just as far at " + meeting, x, 0, 0, 32);
            x = withCoat(withHanks(99, 50, 0, 99, 51 + bears[meeting], 0), 0, 1, 0);
            force(x, "bear (1-(vat=" + meeting + "))*99;seen apart;keep 0;");
            canDue("one farther at " + meeting, x, 0, 0, 16);
        }
        canDue("1 apart", withCoat(withHanks(99, 50, 0, 99, 51, 0), 0, 1, 0), 0, 0, 16);
        canDue("2 apart", withCoat(withHanks(99, 50, 0, 99, 52, 0), 0, 1, 0), 0, 0, 16);
        canDue("3 apart", withCoat(withHanks(99, 50, 0, 99, 53, 0), 0, 1, 0), 0, 0, 8);
        canDue("4 apart", withCoat(withHanks(99, 50, 0, 99, 54, 0), 0, 1, 0), 0, 0, 8);
        canDue("5 apart", withCoat(withHanks(99, 50, 0, 99, 55, 0), 0, 1, 0), 0, 0, 2);
    }

    // "CAN (of DONE ones, too)"; it changes nothing
    private static void canOfDone() {
        SleeveDarker x = some();
        due("can of a done one", x.can(1, 0), 0);
        due("can of a done one, bits", x.can(1, 1), 0);
        refused("can", PartingBoundsTest::some, 0, y -> y.can(0, 0));
        refused("can of a done one", PartingBoundsTest::some, 0, y -> y.can(1, 0));
    }

    // Promise 17: "BAD (as of judge(); DAY); STATE: it is DONE", in this order
    private static void knitRefused() {
        for (int coat : new int[] {-1, 4, 8, LOW, HIGH}) {
            refused("knit coat " + coat, PartingBoundsTest::some, BAD, x -> x.knit(coat, 0, 5));
        }
        for (int coat = 0; coat < 2; coat++) {
            int its = coat;
            for (int parting : new int[] {-1, 7776, LOW, HIGH}) {
                refused("knit " + coat + " by " + parting, PartingBoundsTest::some, BAD, x -> x.knit(its, parting, 5));
            }
            for (int day : new int[] {-1, 0, 4, 100, LOW, HIGH}) {
                refused("knit " + coat + " on " + day, PartingBoundsTest::some, BAD, x -> x.knit(its, 0, day));
            }
        }
        refused("knit a done one", PartingBoundsTest::some, STATE, x -> x.knit(1, 0, 5));
        refused("knit a done one later", PartingBoundsTest::some, STATE, x -> x.knit(1, 0, 99));
        refused("knit a done one by a wrong one", PartingBoundsTest::some, STATE, x -> x.knit(1, 7775, 5));
        refused("knit a done one by too few ounces", PartingBoundsTest::some, STATE, x -> x.knit(1, allOf(2), 5));
    }

    // "what JUDGED tells (if that isn't NONE, nothing else is so)"
    private static void knitWrong() {
        refused("knit by no hank", PartingBoundsTest::some, 10, x -> x.knit(0, 7775, 5));
        refused("knit by no hank for the collar", PartingBoundsTest::some, 14, x -> x.knit(0, 3, 5));
        refused("knit by too few ounces", PartingBoundsTest::some, 22, x -> x.knit(0, allOf(2), 5));
        refused("knit by what may not meet", PartingBoundsTest::some, 43, x -> x.knit(0, parting(0, 0, 0, 2, 0), 5));
        SleeveDarker x = some();
        x.knit(0, 7775, 60);
        due("a wrong one has no day", x.knit(0, 0, 5), NONE);
    }

    // "DAY (0 .. 99, not ahead of one on which a COAT that is DONE was)"
    private static void days() {
        due("knit on day 0", withCoat(withHanks(9, 50, 0), 0, 1, 0).knit(0, 0, 0), NONE);
        due("knit on day 99", withCoat(withHanks(9, 50, 0), 0, 1, 0).knit(0, 0, 99), NONE);
        for (int day : new int[] {-1, 100, LOW, HIGH}) {
            refused("knit on " + day + " while none is done", () -> withCoat(withHanks(9, 50, 0), 0, 1, 0), BAD,
                    x -> x.knit(0, 0, day));
        }
        due("knit on the same day", some().knit(0, 0, 5), NONE);
        due("knit a day later", some().knit(0, 0, 6), NONE);
        due("knit a day ahead", some().knit(0, 0, 4), BAD);
        SleeveDarker x = withHanks(99, 50, 0);
        for (int i = 0; i < 4; i++) {
            x.coat(0, 1, 0);
        }
        x.knit(2, 0, 10);
        x.knit(0, 0, 20);
        due("ahead of the latest", x.knit(1, 0, 19), BAD);
        x.undo(0);
        due("ahead of the one left", x.knit(1, 0, 9), BAD);
        due("on the day of the one left", x.knit(1, 0, 10), NONE);
        x.undo(2);
        x.undo(1);
        due("none is done", x.knit(3, 0, 0), NONE);
        due("none is done, day kept", x.knit(0, 0, 99), NONE);
        due("on day 99 again", x.knit(1, 0, 99), NONE);
        due("ahead of day 99", x.knit(2, 0, 98), BAD);
    }

    // "OUNCES are gone, and it is DONE (by that PARTING)"
    private static void ouncesAreGone() {
        SleeveDarker x = withCoat(withHanks(10, 50, 0, 10, 50, 0, 18, 50, 0, 18, 50, 0, 1, 50, 0, 7, 50, 0), 0, 9, 0);
        due("just enough of all", x.knit(0, parting(0, 1, 2, 3, 4), 0), NONE);
        int[] left = {0, 0, 0, 0, 0, 7};
        for (int hank = 0; hank < 6; hank++) {
            due("left of " + hank, x.hankTold(hank, 0), left[hank]);
        }
        due("it is done", x.told(0, 6), 1);
        due("done ones", x.count(2), 1);
        due("undone", x.undo(0), 52);
        int[] back = {9, 9, 17, 17, 0, 7};
        for (int hank = 0; hank < 6; hank++) {
            due("back of " + hank, x.hankTold(hank, 0), back[hank]);
        }
        due("not enough now", x.knit(0, parting(0, 1, 2, 3, 4), 0), 20);
    }

    // Promise 18: "BAD; STATE: it isn't DONE."
    private static void undoRefused() {
        for (int coat : new int[] {-1, 4, 8, LOW, HIGH}) {
            refused("undo coat " + coat, PartingBoundsTest::some, BAD, x -> x.undo(coat));
        }
        refused("undo what is not done", PartingBoundsTest::some, STATE, x -> x.undo(0));
        refused("undo the last, which is not done", PartingBoundsTest::some, STATE, x -> x.undo(3));
        SleeveDarker x = some();
        due("undo", x.undo(1), 10);
        due("undo again", x.undo(1), STATE);
    }

    private static void undoDue(int kind, int size, int rest, int back) {
        SleeveDarker x = withCoat(withHanks(99, 50, 0, 99, 50, 0), kind, size, rest);
        int takes = x.told(0, 4);
        due("knit", x.knit(0, allOf(1), 0), NONE);
        due("kind " + kind + " size " + size + " comes back", x.undo(0), back);
        due("what is there then", x.hankTold(1, 0), 99 - takes + back);
        due("nothing to another", x.hankTold(0, 0), 99);
        due("it is not done", x.told(0, 6), 0);
        due("none is done", x.count(2), 0);
    }

    // "what each PART took comes back to its HANK, 1 less (0 at least)"
    private static void comesBack() {
        for (int kind : new int[] {0, 1, 2, 4}) {
            undoDue(kind, 1, 5000, 4);
            undoDue(kind, 9, 20999, 52);
        }
        undoDue(5, 1, 0, 9);
        undoDue(5, 9, 0, 57);
        undoDue(3, 1, 0, 4);
        undoDue(3, 1, 1000, 3);
        undoDue(3, 1, 16000, 4);
        undoDue(3, 1, 20000, 3);
        undoDue(3, 1, 15000, 0);
        undoDue(3, 9, 20000, 35);
        undoDue(3, 9, 3000, 34);
    }

    // "(OUNCES may be above 99 then)"
    private static void aboveNinetyNine() {
        SleeveDarker x = withCoat(withHanks(99, 50, 0, 99, 90, 0), 0, 9, 0);
        x.coat(0, 9, 0);
        x.knit(0, 0, 0);
        x.ounces(0, 57);
        x.knit(1, 0, 0);
        x.ounces(0, 99);
        due("52", x.undo(0), 52);
        due("151", x.hankTold(0, 0), 151);
        due("52 more", x.undo(1), 52);
        due("203", x.hankTold(0, 0), 203);
        due("left", x.count(6), 203 + 99);
        due("seen of 203", x.can(0, 2), 2);
        due("knit of 203", x.knit(0, 0, 0), NONE);
        due("146", x.hankTold(0, 0), 146);
        due("an image keeps it", x.image(), 1);
        due("ounces told", x.ounces(0, 99), 146);
        due("back", x.back(), 1);
        due("146 again", x.ounces(0, 0), 146);
    }

    public static void main(String[] args) {
        judgeRefused();
        noSuchHank();
        tooFewOunces();
        eachMeetingAlone();
        theFirstMeeting();
        partsThatTakeNothing();
        canRefused();
        bitsOfOne();
        bitsTogether();
        bitsOfUsedHanks();
        firstAndHowMany();
        canAtEachMeeting();
        canOfDone();
        knitRefused();
        knitWrong();
        days();
        ouncesAreGone();
        undoRefused();
        comesBack();
        aboveNinetyNine();
        end();
    }
}
