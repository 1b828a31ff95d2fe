/** The boundary sentences of promises 19, 20 and 22 to 24: MOST, MORE, the image, counts. */
public final class PlanBoundsTest extends Calls {
    // Coats that take 15, 9 and 6 of one hank: kind, size, rest.
    private static final int[] FIFTEEN = {0, 2, 1};
    private static final int[] NINE = {0, 1, 1};
    private static final int[] SIX = {3, 1, 20001};

    /** Two hanks, five coats, of which the fourth is done; an image of before, a text more. */
    private static SleeveDarker some() {
        SleeveDarker x = withHanks(30, 50, 0, 40, 50, 1);
        x.coat(0, 1, 10);
        x.coat(0, 2, 20);
        x.coat(4, 1, 3030);
        x.coat(0, 1, 999);
        x.coat(0, 1, 999);
        x.image();
        x.knit(3, allOf(1), 7);
        text(x, "bear 0;seen 0;keep 0;");
        return x;
    }

    private static SleeveDarker with(SleeveDarker x, int[]... coats) {
        for (int[] coat : coats) {
            x.coat(coat[0], coat[1], coat[2]);
        }
        return x;
    }

    private static void mostDue(String name, SleeveDarker x, int brings, int order, int bound) {
        due(name + ": brings", x.most(0), brings);
        due(name + ": order", x.most(1), order);
        due(name + ": bound", x.most(2), bound);
    }

    // Promise 19: "BAD."
    private static void mostRefused() {
        for (int what : new int[] {-1, 3, LOW, HIGH}) {
            refused("most " + what, PlanBoundsTest::some, BAD, x -> x.most(what));
        }
        refused("most changes nothing", PlanBoundsTest::some, 84, x -> x.most(0));
        refused("order changes nothing", PlanBoundsTest::some, 123, x -> x.most(1));
        refused("bound changes nothing", PlanBoundsTest::some, 84, x -> x.most(2));
    }

    // "(none: 0)", "0: none"
    private static void noneBringsNothing() {
        mostDue("nothing", new SleeveDarker(), 0, 0, 0);
        mostDue("no coat", withHanks(99, 50, 0), 0, 0, 0);
        mostDue("no hank", with(new SleeveDarker(), NINE), 0, 0, 0);
        mostDue("too few ounces", with(withHanks(8, 50, 0), NINE), 0, 0, 0);
        mostDue("worth 0", with(withHanks(9, 50, 0), new int[] {0, 1, 0}), 0, 0, 0);
        mostDue("less than 0", with(withHanks(9, 50, 0), new int[] {1, 1, 20000}), 0, 0, 0);
        mostDue("just 0", with(withHanks(9, 50, 0), new int[] {4, 1, 20020}), 0, 0, 0);
        mostDue("just 1", with(withHanks(9, 50, 0), new int[] {1, 1, 20021}), 1, 1, 1);
        SleeveDarker x = with(withHanks(18, 50, 0), NINE);
        x.knit(0, 0, 0);
        mostDue("all are done", x, 0, 0, 0);
    }

    // "of the first 3 COATS"
    private static void firstThreeCoats() {
        int[] dear = {0, 1, 999};
        int[] big = {0, 9, 5};
        mostDue("the fourth", with(withHanks(20, 50, 0), big, big, big, dear), 0, 0, 0);
        mostDue("the third", with(withHanks(20, 50, 0), big, big, dear, dear), 999, 3, 999);
        mostDue("the second", with(withHanks(20, 50, 0), big, dear), 999, 2, 999);
        mostDue("the first", with(withHanks(20, 50, 0), dear), 999, 1, 999);
        mostDue("the first of like ones", with(withHanks(9, 50, 0), dear, dear, dear, dear), 999, 1, 2997);
        mostDue("the first two of like ones", with(withHanks(18, 50, 0), dear, dear, dear, dear), 1998, 12, 2997);
        mostDue("all of like ones", with(withHanks(27, 50, 0), dear, dear, dear, dear), 2997, 123, 2997);
        mostDue("one ounce less", with(withHanks(26, 50, 0), dear, dear, dear, dear), 1998, 12, 2997);
    }

    // "those that are not DONE"
    private static void doneOnesAreLeftOut() {
        int[][] coats = {{0, 1, 10}, {0, 1, 20}, {0, 1, 20}};
        int[] brings = {40, 30, 30};
        int[] orders = {23, 13, 12};
        for (int coat = 0; coat < 3; coat++) {
            SleeveDarker x = with(withHanks(99, 50, 0), coats);
            x.knit(coat, 0, 0);
            mostDue("coat " + coat + " is done", x, brings[coat], orders[coat], brings[coat]);
            x.undo(coat);
            mostDue("coat " + coat + " is undone", x, 50, 123, 50);
        }
    }

    // "of like ones the fewest COATS, then the first by COATS"
    private static void likeOnes() {
        int[] nothing = {0, 1, 0};
        int[] ten = {0, 1, 10};
        int[] five = {0, 1, 5};
        mostDue("those that bring 0 are left out", with(withHanks(99, 50, 0), nothing, ten, nothing), 10, 2, 10);
        mostDue("one of 10 or two of 5", with(withHanks(18, 50, 0), five, five, new int[] {0, 2, 10}), 10, 3, 20);
        mostDue("one of 10 or two of 5, first", with(withHanks(18, 50, 0), new int[] {0, 2, 10}, five, five), 10, 1, 20);
        mostDue("two of 5 and a bit", with(withHanks(18, 50, 0), new int[] {0, 2, 9}, five, five), 10, 23, 19);
        mostDue("the first of two", with(withHanks(9, 50, 0), nothing, ten, ten), 10, 2, 20);
        mostDue("1 3 ahead of 3 1", with(withHanks(18, 50, 0), ten, nothing, ten), 20, 13, 20);
        mostDue("2 3 ahead of 3 2", with(withHanks(18, 50, 0), nothing, ten, ten), 20, 23, 20);
        mostDue("1 2 ahead of 1 3, 2 3", with(withHanks(18, 50, 0), ten, ten, ten), 20, 12, 30);
    }

    /** Hanks of 15, 9 and 6 that may not meet: only one order fits, as each takes the first without bits. */
    private static void eachOrder() {
        int[][][] coats = {{FIFTEEN, NINE, SIX}, {FIFTEEN, SIX, NINE}, {NINE, FIFTEEN, SIX}, {SIX, FIFTEEN, NINE},
            {NINE, SIX, FIFTEEN}, {SIX, NINE, FIFTEEN}};
        int[] orders = {123, 132, 213, 231, 312, 321};
        for (int i = 0; i < orders.length; i++) {
            SleeveDarker x = with(withHanks(15, 0, 0, 9, 30, 0, 6, 60, 0), coats[i]);
            mostDue("only order " + orders[i], x, 3, orders[i], 3);
        }
        mostDue("only 2 1", with(withHanks(9, 0, 0, 6, 60, 0), SIX, NINE), 2, 21, 2);
        mostDue("1 2", with(withHanks(9, 0, 0, 6, 60, 0), NINE, SIX), 2, 12, 2);
    }

    // BOUND: "BRING more than 0, and take no more than all OUNCES there are (each by itself)"
    private static void bound() {
        SleeveDarker x = with(withHanks(3, 0, 0, 4, 30, 0, 1, 60, 0), NINE, NINE, SIX);
        mostDue("one ounce too few in all", x, 0, 0, 1);
        x.ounces(2, 2);
        mostDue("just as many in all, each by itself", x, 0, 0, 3);
        x = with(withHanks(99, 50, 0), new int[] {1, 1, 5005}, new int[] {4, 1, 5004}, new int[] {5, 1, 5000});
        mostDue("0, less than 0, and 5", x, 5, 3, 5);
        x = with(withHanks(0, 50, 0), NINE);
        mostDue("no ounces", x, 0, 0, 0);
        x = with(withHanks(62, 50, 0), new int[] {5, 9, 20999}, new int[] {5, 9, 20999}, new int[] {5, 9, 20999}, NINE);
        mostDue("62 for 62", x, 1019, 1, 3057);
        x.ounces(0, 61);
        mostDue("61 for 62", x, 0, 0, 0);
        x = with(withHanks(99, 50, 0, 99, 50, 0), new int[] {4, 1, 999}, new int[] {4, 1, 999}, new int[] {4, 1, 999});
        mostDue("the most that can be", x, 5994, 123, 5994);
    }

    // "each by CAN (OUNCES are gone then)": the first takes the hank that the second needs, or not
    private static void eachByCan() {
        SleeveDarker x = with(withHanks(10, 0, 0, 9, 60, 0), NINE, new int[] {0, 1, 3});
        mostDue("nine by the hank of nine first", x, 4, 12, 4);
        x.ounces(0, 8);
        mostDue("one hank for two", x, 3, 2, 4);
        // Hanks of 10 and 11 leave bits, that of 9 none: it is taken first, and leaves them to those that take 10 and 11.
        int[] ten = {3, 2, 20001};
        int[] eleven = {3, 2, 4001};
        x = with(withHanks(10, 0, 0, 9, 60, 0), NINE, ten);
        mostDue("the last without bits", x, 2, 12, 2);
        x = with(withHanks(11, 0, 0, 9, 60, 0), NINE, eleven);
        mostDue("the last without bits", x, 2, 12, 2);
        x = with(withHanks(11, 0, 0, 10, 30, 0, 9, 60, 0), NINE, ten, eleven);
        mostDue("the last of three without bits", x, 3, 123, 3);
        // Both may meet while 22 are there, and by this rule no more when 9 are gone.
        x = with(withHanks(14, 50, 0, 8, 90, 0), NINE, NINE, NINE);
        force(x, "bear 0;seen (ounces<22)*9;keep 0;");
        mostDue("seen by what is left", x, 1, 1, 3);
        due("ways while 22 are there", x.can(0, 2), 31);
        force(x, "bear 0;seen 0;keep 0;");
        mostDue("seen alike", x, 2, 12, 3);
    }

    // Promise 20: "n OUNCES more (1 .. 50)"; "BAD; NONE"
    private static void moreRefused() {
        for (int n : new int[] {-1, 0, 51, LOW, HIGH}) {
            refused("more " + n, PlanBoundsTest::some, BAD, x -> x.more(n));
        }
        refused("more changes nothing", PlanBoundsTest::some, NONE, x -> x.more(50));
        due("more of nothing", new SleeveDarker().more(1), NONE);
        due("more without hanks", with(new SleeveDarker(), NINE).more(50), NONE);
        due("more without coats", withHanks(1, 50, 0).more(50), NONE);
        due("more 1", with(withHanks(8, 50, 0), NINE).more(1), 0);
        due("more 50", with(withHanks(7, 50, 0), new int[] {0, 9, 1}).more(50), 0);
        due("more 50, one too few", with(withHanks(6, 50, 0), new int[] {0, 9, 1}).more(50), NONE);
        due("more 9", with(withHanks(0, 50, 0), NINE).more(9), 0);
        due("more 8", with(withHanks(0, 50, 0), NINE).more(8), NONE);
    }

    // "would let MOST bring most; of like ones the least; NONE: none lets it bring more"
    private static void more() {
        due("the least of like ones", with(withHanks(0, 0, 0, 0, 30, 0, 0, 60, 0), NINE).more(9), 0);
        due("the only one", with(withHanks(0, 0, 0, 0, 30, 0, 1, 60, 0), NINE).more(8), 2);
        SleeveDarker x = with(withHanks(0, 0, 0, 6, 30, 0, 0, 60, 0), NINE, new int[] {0, 2, 5});
        due("the one that brings most", x.more(9), 1);
        due("the least, all bring one", x.more(10 + 30), 0);
        x = with(withHanks(9, 0, 0, 0, 30, 0), NINE);
        due("it brings no more", x.more(50), NONE);
        x = with(withHanks(9, 0, 0, 8, 30, 0), NINE, NINE);
        due("it brings more by one more", x.more(1), 1);
        x = with(withHanks(0, 0, 0, 0, 12, 0, 0, 24, 0, 0, 36, 0, 0, 48, 0, 8, 60, 0), NINE);
        due("the last of six", x.more(1), 5);
        due("no coat to be knitted brings more", with(withHanks(8, 0, 0), new int[] {0, 1, 0}).more(1), NONE);
        due("nor one that brings less", with(withHanks(8, 0, 0), new int[] {1, 1, 1000}).more(1), NONE);
    }

    /** Ounces above 99 count in MORE: two coats of 57 take 114. */
    private static void moreAboveNinetyNine() {
        int[] big = {0, 9, 7};
        SleeveDarker x = with(withHanks(99, 50, 0), big, big);
        due("14 more of 99", x.more(14), NONE);
        due("15 more of 99", x.more(15), 0);
        due("nothing came", x.count(6), 99);
    }

    // Promises 22, 23: "how many COATS are DONE"; "STATE: there is none."
    private static void imageAndBackOfNothing() {
        refused("back without an image", SleeveDarker::new, STATE, SleeveDarker::back);
        SleeveDarker x = withHanks(50, 50, 0);
        x.coat(0, 1, 0);
        x.knit(0, 0, 9);
        due("back without an image", x.back(), STATE);
        due("it is still done", x.told(0, 6), 1);
        x = new SleeveDarker();
        due("image of nothing", x.image(), 0);
        x.hank(30, 50, 2);
        x.coat(0, 1, 0);
        x.fade(2, 9);
        text(x, "bear 0;seen 0;keep 1;");
        x.force(1);
        x.knit(0, 0, 9);
        due("back to nothing", x.back(), 1);
        due("a hank since", x.hankTold(0, 0), 21);
        due("a coat since", x.told(0, 6), 1);
        due("its vat", x.hankTold(0, 1), 50);
        due("the rule", x.count(5), 0);
        due("texts stay", x.count(3), 2);
        due("its day", x.knit(0, 0, 8), BAD);
        due("it can be undone", x.undo(0), 4);
        due("back again", x.back(), 0);
    }

    // "AN IMAGE keeps OUNCES of all HANKS, FADED of VATS"
    private static void imageOfHanksAndVats() {
        SleeveDarker x = withHanks(1, 90, 0, 2, 91, 1, 3, 92, 2, 4, 93, 3, 5, 94, 4, 6, 95, 5);
        for (int vat = 0; vat < 9; vat++) {
            x.fade(vat, vat + 10);
        }
        due("image", x.image(), 0);
        for (int vat = 0; vat < 9; vat++) {
            x.fade(vat, 50);
        }
        for (int hank = 0; hank < 6; hank++) {
            x.ounces(hank, 77);
        }
        due("back", x.back(), 0);
        for (int hank = 0; hank < 6; hank++) {
            due("ounces of " + hank, x.hankTold(hank, 0), hank + 1);
            due("shade of " + hank, x.hankTold(hank, 1), 80);
        }
        for (int vat = 0; vat < 9; vat++) {
            due("faded of vat " + vat, x.fade(vat, 0), vat + 10);
        }
        due("the image stays", x.back(), 0);
        due("faded of vat 8 again", x.fade(8, 0), 18);
    }

    // "which COATS are DONE (and their PARTINGS, DAYS)"
    private static void imageOfCoats() {
        SleeveDarker x = withHanks(99, 50, 0, 99, 50, 0);
        for (int i = 0; i < 8; i++) {
            x.coat(4, 1, 0);
        }
        x.knit(0, 0, 3);
        x.knit(7, allOf(1), 40);
        due("image of two", x.image(), 2);
        x.undo(0);
        x.undo(7);
        x.knit(1, allOf(1), 1);
        x.knit(0, allOf(1), 2);
        x.knit(7, 0, 5);
        due("three are done", x.count(2), 3);
        due("back to two", x.back(), 2);
        due("coat 1 is not done", x.told(1, 6), 0);
        due("late by the days of then", x.late(0), 43);
        due("no day ahead of 40", x.knit(1, 0, 39), BAD);
        due("ounces of then", x.hankTold(0, 0), 90);
        x.undo(0);
        due("coat 0 was of hank 0", x.hankTold(0, 0), 94);
        x.undo(7);
        due("coat 7 was of hank 1", x.hankTold(1, 0), 94);
        due("image of none", x.image(), 0);
        x.knit(0, 0, 0);
        due("the new image counts", x.back(), 0);
        due("its ounces", x.hankTold(0, 0), 94);
    }

    // "THE RULE (HANKS, COATS that came since stay as they are)"
    private static void imageOfTheRule() {
        SleeveDarker x = withHanks(99, 50, 0);
        x.coat(0, 1, 0);
        force(x, "bear 0;seen 0;keep 11;");
        x.image();
        force(x, "bear 0;seen 0;keep 22;");
        x.hank(88, 50, 0);
        x.coat(0, 1, 0);
        x.knit(0, allOf(1), 0);
        x.knit(1, allOf(0), 0);
        feed(x, "bear");
        due("kept by the new rule", x.count(7), 44);
        due("back", x.back(), 1);
        due("the rule of then", x.count(5), 1);
        due("keep by the rule of then", x.told(0, 5), 11);
        due("kept", x.count(7), 11);
        due("the hank of then has its ounces", x.hankTold(0, 0), 99);
        due("the hank since has what it had", x.hankTold(1, 0), 79);
        due("texts", x.count(3), 3);
        due("tape", x.count(4), 4);
        due("sheets stay", x.sheet(0, 2, 5), 1);
        x.back();
        due("sheets stay", x.cell(0, 4, 1), 1);
    }

    // Promise 24: "BAD."
    private static void countRefused() {
        for (int what : new int[] {-1, 9, 10, LOW, HIGH}) {
            refused("count " + what, PlanBoundsTest::some, BAD, x -> x.count(what));
        }
        int[] due = {2, 5, 1, 2, 0, 0, 61, 1, 0};
        for (int what = 0; what < due.length; what++) {
            due("count " + what, some().count(what), due[what]);
        }
    }

    // "BITS: HANKS with 1 or 2 OUNCES (bits)"; LEFT
    private static void bitsAndLeft() {
        for (int hank = 0; hank < 6; hank++) {
            SleeveDarker x = withHanks(0, 1, 0, 3, 1, 0, 99, 1, 0, 0, 1, 0, 3, 1, 0, 4, 1, 0);
            due("no bits", x.count(8), 0);
            int had = x.ounces(hank, 0);
            due("0 is no bit", x.count(8), 0);
            due("left", x.count(6), 109 - had);
            x.ounces(hank, 1);
            due("1 is a bit", x.count(8), 1 << hank);
            due("left", x.count(6), 110 - had);
            x.ounces(hank, 2);
            due("2 is a bit", x.count(8), 1 << hank);
            x.ounces(hank, 3);
            due("3 is no bit", x.count(8), 0);
        }
        SleeveDarker x = withHanks(1, 1, 0, 2, 1, 0, 1, 1, 0, 2, 1, 0, 1, 1, 0, 2, 1, 0);
        due("all are bits", x.count(8), 63);
        due("left", x.count(6), 9);
        due("all of 99", withHanks(99, 1, 0, 99, 1, 0, 99, 1, 0, 99, 1, 0, 99, 1, 0, 99, 1, 0).count(6), 594);
    }

    // "KEPT: of all COATS that are DONE keep together"
    private static void kept() {
        SleeveDarker x = withHanks(99, 50, 0);
        for (int i = 0; i < 8; i++) {
            x.coat(0, 1, 0);
        }
        due("none is done", x.count(7), 0);
        for (int i = 0; i < 8; i++) {
            x.knit(7 - i, 0, 0);
            due("kept of " + (i + 1), x.count(7), i + 1);
            due("done", x.count(2), i + 1);
        }
        force(x, "bear 0;seen 0;keep 1000;");
        due("each 99 at most", x.count(7), 8 * 99);
        force(x, "bear 0;seen 0;keep 0-1;");
        due("each 0 at least", x.count(7), 0);
    }

    public static void main(String[] args) {
        mostRefused();
        noneBringsNothing();
        firstThreeCoats();
        doneOnesAreLeftOut();
        likeOnes();
        eachOrder();
        bound();
        eachByCan();
        moreRefused();
        more();
        moreAboveNinetyNine();
        imageAndBackOfNothing();
        imageOfHanksAndVats();
        imageOfCoats();
        imageOfTheRule();
        countRefused();
        bitsAndLeft();
        kept();
        end();
    }
}
