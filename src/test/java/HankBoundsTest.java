/** The boundary sentences of promises 1 to 4, 7 and 11 to 14: hanks, vats, shades. */
public final class HankBoundsTest extends Calls {

    /** Two hanks of six, one vat faded, a coat; an image of before. */
    private static SleeveDarker some() {
        SleeveDarker x = withHanks(10, 50, 3, 20, 60, 4);
        x.coat(0, 1, 0);
        x.image();
        x.fade(3, 7);
        feed(x, "abc");
        return x;
    }

    private static SleeveDarker full() {
        return withHanks(1, 11, 0, 2, 12, 1, 3, 13, 2, 4, 14, 3, 5, 15, 4, 6, 16, 5);
    }

    // Promise 1: "No HANKS."
    private static void newObjectHasNoHanks() {
        for (int hank = -1; hank <= 6; hank++) {
            for (int what = 0; what < 3; what++) {
                due("new hankTold " + hank, new SleeveDarker().hankTold(hank, what), NO_SUCH);
            }
            due("new ounces", new SleeveDarker().ounces(hank, 1), BAD);
            due("new seen", new SleeveDarker().seen(hank, 0), NO_SUCH);
            due("new between", new SleeveDarker().between(hank, 1, 1), BAD);
        }
        due("new count of hanks", new SleeveDarker().count(0), 0);
        due("new left", new SleeveDarker().count(6), 0);
        due("new bits", new SleeveDarker().count(8), 0);
        due("new range 0", new SleeveDarker().range(0), NONE);
        due("new range 1", new SleeveDarker().range(1), BAD);
    }

    private static void coatsWithoutHanks() {
        SleeveDarker x = new SleeveDarker();
        x.coat(0, 1, 10);
        x.coat(3, 1, 15020);
        due("no hank: judge", x.judge(0, 0), 10);
        due("no hank: judge of the last", x.judge(0, 7775), 10);
        due("no hank: can", x.can(0, 0), NONE);
        due("no hank: bits", x.can(0, 1), NONE);
        due("no hank: ways", x.can(0, 2), 0);
        due("no hank: knit", x.knit(0, 0, 0), 10);
        due("no hank: mayMeet", x.mayMeet(0, 0, 0), BAD);
        due("no hank: most", x.most(0), 0);
        due("no hank: order", x.most(1), 0);
        due("no hank: bound", x.most(2), 0);
        due("no hank: more", x.more(50), NONE);
    }

    // "FADED ... 0 at first", of each vat
    private static void noVatHasFadedAtFirst() {
        SleeveDarker x = new SleeveDarker();
        for (int vat = 0; vat < 9; vat++) {
            due("new vat " + vat, x.fade(vat, 1), 0);
        }
    }

    // "all are missing at first", "no image", "TEXT 0, at first THE RULE", "THE TAPE"
    private static void theRestOfANewObject() {
        for (int sheet = 0; sheet < 4; sheet++) {
            SleeveDarker x = new SleeveDarker();
            due("new sheet " + sheet, x.cell(sheet, 0, 0), -11);
            due("new sheet " + sheet + " copied", x.copy(sheet, 0, sheet, 0, 0), -11);
            due("new sheet " + sheet + " read", x.hanks(sheet, 0, 0, 0), -11);
        }
        due("no image", new SleeveDarker().back(), STATE);
        due("image of nothing", new SleeveDarker().image(), 0);
        due("one text", new SleeveDarker().count(3), 1);
        due("empty tape", new SleeveDarker().count(4), 0);
        due("rule 0", new SleeveDarker().count(5), 0);
        due("force 0 of 0", new SleeveDarker().force(0), 0);
        due("nothing late", new SleeveDarker().late(99), 0);
        due("nothing kept", new SleeveDarker().count(7), 0);
    }

    // Promise 2: "OUNCES (0 .. 99), SHADE (0 .. 99), a VAT (0 .. 8)"
    private static void boundsOfAHank() {
        refused("hank -1 ounces", HankBoundsTest::some, BAD, x -> x.hank(-1, 5, 5));
        refused("hank 100 ounces", HankBoundsTest::some, BAD, x -> x.hank(100, 5, 5));
        refused("hank low ounces", HankBoundsTest::some, BAD, x -> x.hank(LOW, 5, 5));
        refused("hank high ounces", HankBoundsTest::some, BAD, x -> x.hank(HIGH, 5, 5));
        refused("hank shade -1", HankBoundsTest::some, BAD, x -> x.hank(5, -1, 5));
        refused("hank shade 100", HankBoundsTest::some, BAD, x -> x.hank(5, 100, 5));
        refused("hank shade low", HankBoundsTest::some, BAD, x -> x.hank(5, LOW, 5));
        refused("hank shade high", HankBoundsTest::some, BAD, x -> x.hank(5, HIGH, 5));
        refused("hank vat -1", HankBoundsTest::some, BAD, x -> x.hank(5, 5, -1));
        refused("hank vat 9", HankBoundsTest::some, BAD, x -> x.hank(5, 5, 9));
        refused("hank vat low", HankBoundsTest::some, BAD, x -> x.hank(5, 5, LOW));
        refused("hank vat high", HankBoundsTest::some, BAD, x -> x.hank(5, 5, HIGH));
        int[][] sound = {{0, 5, 5}, {99, 5, 5}, {5, 0, 5}, {5, 99, 5}, {5, 5, 0}, {5, 5, 8}};
        for (int[] each : sound) {
            SleeveDarker x = some();
            due("hank", x.hank(each[0], each[1], each[2]), 2);
            due("its ounces", x.hankTold(2, 0), each[0]);
            due("its shade", x.hankTold(2, 1), each[1]);
            due("its vat", x.hankTold(2, 2), each[2]);
        }
    }

    // "HANKS (6 at most, numbered from 0)"; "BAD; FULL", in this order
    private static void sixHanksAtMost() {
        SleeveDarker x = new SleeveDarker();
        for (int i = 0; i < 6; i++) {
            due("hank " + i, x.hank(i, 20 + i, i), i);
            due("hanks", x.count(0), i + 1);
        }
        for (int i = 0; i < 6; i++) {
            due("ounces of " + i, x.hankTold(i, 0), i);
            due("shade of " + i, x.hankTold(i, 1), 20 + i);
            due("vat of " + i, x.hankTold(i, 2), i);
        }
        refused("hank 7", HankBoundsTest::full, FULL, y -> y.hank(0, 0, 0));
        refused("bad ounces ahead of full", HankBoundsTest::full, BAD, y -> y.hank(100, 0, 0));
        refused("bad shade ahead of full", HankBoundsTest::full, BAD, y -> y.hank(0, 100, 0));
        refused("bad vat ahead of full", HankBoundsTest::full, BAD, y -> y.hank(0, 0, 9));
    }

    // A hank of a vat that faded is made with its shade as it was told
    private static void hankOfAFadedVat() {
        SleeveDarker x = some();
        due("hank of vat 3", x.hank(1, 50, 3), 2);
        due("seen as faded", x.hankTold(2, 1), 43);
        x.fade(3, 0);
        due("its shade", x.hankTold(2, 1), 50);
    }

    // Promise 3: "how many it had. BAD."
    private static void ouncesOfAHank() {
        refused("ounces of hank -1", HankBoundsTest::some, BAD, x -> x.ounces(-1, 5));
        refused("ounces of hank 2", HankBoundsTest::some, BAD, x -> x.ounces(2, 5));
        refused("ounces of hank 6", HankBoundsTest::full, BAD, x -> x.ounces(6, 5));
        refused("ounces of hank low", HankBoundsTest::some, BAD, x -> x.ounces(LOW, 5));
        refused("ounces of hank high", HankBoundsTest::some, BAD, x -> x.ounces(HIGH, 5));
        refused("ounces -1", HankBoundsTest::some, BAD, x -> x.ounces(1, -1));
        refused("ounces 100", HankBoundsTest::some, BAD, x -> x.ounces(1, 100));
        refused("ounces low", HankBoundsTest::some, BAD, x -> x.ounces(1, LOW));
        refused("ounces high", HankBoundsTest::some, BAD, x -> x.ounces(1, HIGH));
        SleeveDarker x = full();
        for (int hank = 0; hank < 6; hank++) {
            due("ounces to 0", x.ounces(hank, 0), hank + 1);
            due("ounces to 99", x.ounces(hank, 99), 0);
            due("ounces of hank " + hank, x.hankTold(hank, 0), 99);
        }
        due("all ounces", x.count(6), 6 * 99);
    }

    // Promise 4: "A VAT FADES so much: what it was. BAD."; "(0 .. 50; 0 at first): SHADE less that, 0 at least"
    private static void boundsOfFading() {
        refused("fade vat -1", HankBoundsTest::some, BAD, x -> x.fade(-1, 5));
        refused("fade vat 9", HankBoundsTest::some, BAD, x -> x.fade(9, 5));
        refused("fade vat low", HankBoundsTest::some, BAD, x -> x.fade(LOW, 5));
        refused("fade vat high", HankBoundsTest::some, BAD, x -> x.fade(HIGH, 5));
        refused("fade -1", HankBoundsTest::some, BAD, x -> x.fade(3, -1));
        refused("fade 51", HankBoundsTest::some, BAD, x -> x.fade(3, 51));
        refused("fade low", HankBoundsTest::some, BAD, x -> x.fade(3, LOW));
        refused("fade high", HankBoundsTest::some, BAD, x -> x.fade(3, HIGH));
        SleeveDarker x = new SleeveDarker();
        for (int vat = 0; vat < 9; vat++) {
            due("fade 50", x.fade(vat, 50), 0);
            due("fade 0", x.fade(vat, 0), 50);
            due("faded to 0", x.fade(vat, vat), 0);
        }
        for (int vat = 0; vat < 9; vat++) {
            due("vats fade each by itself", x.fade(vat, 1), vat);
        }
    }

    private static void shadesFadeToZeroAtLeast() {
        SleeveDarker x = withHanks(1, 10, 8, 1, 0, 8, 1, 99, 8, 1, 50, 8, 1, 51, 8, 1, 10, 7);
        int[][] due = {{9, 1, 0}, {10, 0, 0}, {11, 0, 0}, {50, 0, 0}, {0, 10, 0}};
        for (int[] each : due) {
            x.fade(8, each[0]);
            due("shade 10 faded by " + each[0], x.hankTold(0, 1), each[1]);
            due("shade 0 faded by " + each[0], x.hankTold(1, 1), each[2]);
            due("shade 10 of another vat", x.hankTold(5, 1), 10);
        }
        x.fade(8, 50);
        due("shade 99 faded by 50", x.hankTold(2, 1), 49);
        due("shade 50 faded by 50", x.hankTold(3, 1), 0);
        due("shade 51 faded by 50", x.hankTold(4, 1), 1);
        due("both at 0 are seen alike", x.seen(0, 3), 0);
        due("no shade below 0 is seen", x.seen(1, 4), 1);
    }

    // Promise 7: "-5: none such."
    private static void hankTold() {
        int[] none = {-1, 2, 6, LOW, HIGH};
        for (int hank : none) {
            refused("hankTold of " + hank, HankBoundsTest::some, NO_SUCH, x -> x.hankTold(hank, 0));
        }
        int[] nothing = {-1, 3, LOW, HIGH};
        for (int what : nothing) {
            refused("hankTold " + what, HankBoundsTest::some, NO_SUCH, x -> x.hankTold(0, what));
        }
        due("hankTold of 6 of six", full().hankTold(6, 0), NO_SUCH);
        due("hankTold of 5 of six", full().hankTold(5, 0), 6);
    }

    // Promise 11: "-5: none such, alike."
    private static void seenRefused() {
        int[][] none = {{-1, 0}, {0, -1}, {2, 0}, {0, 2}, {2, 2}, {-1, -1}, {0, 0}, {1, 1}, {LOW, 0}, {0, LOW}, {HIGH, 0}, {0, HIGH}};
        for (int[] each : none) {
            refused("seen " + each[0] + " " + each[1], HankBoundsTest::some, NO_SUCH, x -> x.seen(each[0], each[1]));
        }
        due("seen of the last two", full().seen(4, 5), 1);
        due("seen of the first and last", full().seen(5, 0), 5);
        due("seen of 6", full().seen(0, 6), NO_SUCH);
        due("seen of 6", full().seen(6, 0), NO_SUCH);
    }

    // "seen: (0 .. 999, else the bound)"
    private static void boundsOfSeen() {
        String[][] due = {{"0-1", "0"}, {"0", "0"}, {"1", "1"}, {"998", "998"}, {"999", "999"}, {"1000", "999"}, {"9999", "999"},
            {"128*256*256*256", "0"}, {"128*256*256*256-1", "999"}, {"256*256*256*256+3", "3"}};
        for (String[] each : due) {
            SleeveDarker x = withHanks(1, 50, 0, 1, 60, 0);
            force(x, "bear 0;seen " + each[0] + ";keep 0;");
            due("seen by " + each[0], x.seen(0, 1), Integer.parseInt(each[1]));
        }
    }

    // "ounces: of both; apart: ... without its sign; size 0; worn 0; faded: unlike (1, 0); vat: of the lesser HANK"
    private static void namesOfSeen() {
        SleeveDarker x = withHanks(99, 99, 8, 99, 0, 0, 0, 0, 8, 0, 99, 0);
        force(x, "bear 0;seen ounces;keep 0;");
        due("ounces of both", x.seen(0, 1), 198);
        due("ounces of both, one has none", x.seen(0, 2), 99);
        due("ounces of none", x.seen(2, 3), 0);
        force(x, "bear 0;seen apart;keep 0;");
        due("99 apart", x.seen(0, 1), 99);
        due("99 apart, turned", x.seen(1, 0), 99);
        due("0 apart", x.seen(0, 3), 0);
        force(x, "bear 0;seen 10+size+worn*100;keep 0;");
        due("size 0, worn 0", x.seen(0, 1), 10);
        force(x, "bear 0;seen faded;keep 0;");
        due("unlike vats", x.seen(0, 1), 1);
        due("like vats", x.seen(0, 2), 0);
        due("like vats 0", x.seen(1, 3), 0);
        force(x, "bear 0;seen vat;keep 0;");
        due("vat of 0", x.seen(0, 1), 8);
        due("vat of 0, turned", x.seen(1, 0), 8);
        due("vat of 1", x.seen(1, 2), 0);
        due("vat of 1, turned", x.seen(2, 1), 0);
        due("vat of 2, turned", x.seen(3, 2), 8);
        x = withHanks(99, 99, 8, 99, 0, 0, 0, 0, 8);
        force(x, "bear 0;seen faded*5+10;keep 0;");
        due("unlike vats and 10", x.seen(0, 1), 15);
        due("like vats and 10", x.seen(0, 2), 10);
    }

    // The ounces of the moment are seen, above 99 also; shades as faded
    private static void seenOfTheMoment() {
        SleeveDarker x = withHanks(99, 50, 0, 99, 50, 1);
        x.coat(0, 9, 0);
        force(x, "bear 0;seen ounces;keep 0;");
        x.knit(0, 0, 0);
        due("seen of 42 and 99", x.seen(0, 1), 141);
        x.ounces(0, 99);
        due("52 come back", x.undo(0), 52);
        due("seen of 151 and 99", x.seen(0, 1), 250);
        force(x, "bear 0;seen apart;keep 0;");
        due("alike", x.seen(0, 1), 0);
        x.fade(1, 50);
        due("as faded", x.seen(0, 1), 50);
        x.fade(0, 50);
        due("both faded", x.seen(0, 1), 0);
    }

    // Promise 12: "BAD."; hanks: 100 times the one, and the other one
    private static void mayMeetRefused() {
        int[][] bad = {{-1, 0, 1}, {1, 0, 1}, {8, 0, 1}, {LOW, 0, 1}, {HIGH, 0, 1},
            {0, -1, 1}, {0, 6, 1}, {0, LOW, 1}, {0, HIGH, 1},
            {0, 0, -1}, {0, 0, 2}, {0, 0, 99}, {0, 0, 102}, {0, 0, 199}, {0, 0, 200}, {0, 0, 201}, {0, 0, 600},
            {0, 0, -100}, {0, 0, -101}, {0, 0, -200}, {0, 0, LOW}, {0, 0, HIGH}, {0, 0, 10000}, {0, 0, 10001}};
        for (int[] each : bad) {
            refused("mayMeet " + each[0] + " " + each[1] + " " + each[2], HankBoundsTest::some, BAD,
                    x -> x.mayMeet(each[0], each[1], each[2]));
        }
        int[][] sound = {{0, 1}, {1, 1}, {100, 1}, {101, 1}};
        for (int[] each : sound) {
            SleeveDarker x = withHanks(1, 50, 0, 1, 50, 0);
            x.coat(0, 1, 0);
            due("mayMeet " + each[0], x.mayMeet(0, 5, each[0]), each[1]);
        }
        SleeveDarker x = full();
        x.coat(0, 1, 0);
        due("mayMeet 505", x.mayMeet(0, 0, 505), 1);
        due("mayMeet 506", x.mayMeet(0, 0, 506), BAD);
        due("mayMeet 605", x.mayMeet(0, 0, 605), BAD);
        due("mayMeet 405", x.mayMeet(0, 3, 405), 1);
        due("mayMeet 5", x.mayMeet(0, 3, 5), 0);
    }

    // "no farther apart than BEARS and bear together"
    private static void noFartherThanBears() {
        int[] bears = {0, 2, 2, 4, 4, 4};
        for (int meeting = 0; meeting < 6; meeting++) {
            int apart = bears[meeting];
            SleeveDarker x = withHanks(0, 40, 0, 0, 40 + apart, 0, 0, 41 + apart, 0, 0, 40 + apart + 7, 0, 0, 40 + apart + 8, 0);
            x.coat(0, 1, 0);
            due("just as far at " + meeting, x.mayMeet(0, meeting, 1), 1);
            due("just as far at " + meeting + ", turned", x.mayMeet(0, meeting, 100), 1);
            due("one farther at " + meeting, x.mayMeet(0, meeting, 2), 0);
            due("one farther at " + meeting + ", turned", x.mayMeet(0, meeting, 200), 0);
            force(x, "bear 7;seen apart;keep 0;");
            due("just as far with bear at " + meeting, x.mayMeet(0, meeting, 3), 1);
            due("one farther than with bear at " + meeting, x.mayMeet(0, meeting, 4), 0);
        }
    }

    // "one HANK always may with itself"
    private static void aHankWithItself() {
        SleeveDarker x = full();
        x.coat(0, 1, 0);
        force(x, "bear 0;seen 999;keep 0;");
        for (int hank = 0; hank < 6; hank++) {
            for (int meeting = 0; meeting < 6; meeting++) {
                due("itself " + hank + " at " + meeting, x.mayMeet(0, meeting, 101 * hank), 1);
            }
        }
        due("two of them", x.mayMeet(0, 5, 1), 0);
    }

    // Promise 13: "BAD (alike, too)"; "k rows (1 .. 9)"; "by (k and 1) (cut)"
    private static void between() {
        int[][] bad = {{-1, 0, 1}, {0, -1, 1}, {2, 0, 1}, {0, 2, 1}, {0, 0, 1}, {1, 1, 9}, {LOW, 0, 1}, {0, HIGH, 1},
            {0, 1, 0}, {0, 1, 10}, {0, 1, -1}, {0, 1, LOW}, {0, 1, HIGH}};
        for (int[] each : bad) {
            refused("between " + each[0] + " " + each[1] + " " + each[2], HankBoundsTest::some, BAD,
                    x -> x.between(each[0], each[1], each[2]));
        }
        // k * 0 and 99 by (k and 1), cut; turned: k * 99 by (k and 1), cut.
        SleeveDarker x = withHanks(0, 0, 0, 0, 99, 1);
        int[] first = {49, 33, 24, 19, 16, 14, 12, 11, 9};
        int[] turned = {49, 66, 74, 79, 82, 84, 86, 88, 89};
        for (int k = 1; k <= 9; k++) {
            due("between of 0 and 99 by " + k, x.between(0, 1, k), first[k - 1]);
            due("between of 99 and 0 by " + k, x.between(1, 0, k), turned[k - 1]);
        }
        x.fade(1, 50);
        due("between as faded", x.between(0, 1, 1), 24);
        x.fade(0, 50);
        due("between of 0 at least", x.between(0, 1, 1), 24);
        due("between of the last two", full().between(5, 4, 9), 15);
        due("between of 6", full().between(6, 4, 9), BAD);
    }

    // Promise 14: "RANGE. BAD; NONE."; "NONE of fewer than 2"
    private static void range() {
        int[] bad = {-1, 4, 5, 8, 64, LOW, HIGH, 3 - 64, 7};
        for (int bits : bad) {
            refused("range " + bits, HankBoundsTest::some, BAD, x -> x.range(bits));
        }
        due("range of none", some().range(0), NONE);
        due("range of one", some().range(1), NONE);
        due("range of the other", some().range(2), NONE);
        due("range of two: 43 and 60", some().range(3), 17);
        due("range of all six", full().range(63), 5);
        due("range 64 of six", full().range(64), BAD);
        due("range of the last two", full().range(48), 1);
        due("range of first and last", full().range(33), 5);
        for (int hank = 0; hank < 6; hank++) {
            due("range of one of six", full().range(1 << hank), NONE);
        }
        SleeveDarker x = withHanks(0, 50, 0, 0, 50, 0);
        due("range of like ones", x.range(3), 0);
        force(x, "bear 0;seen 1000;keep 0;");
        due("range as seen", x.range(3), 999);
    }

    public static void main(String[] args) {
        newObjectHasNoHanks();
        coatsWithoutHanks();
        noVatHasFadedAtFirst();
        theRestOfANewObject();
        boundsOfAHank();
        sixHanksAtMost();
        hankOfAFadedVat();
        ouncesOfAHank();
        boundsOfFading();
        shadesFadeToZeroAtLeast();
        hankTold();
        seenRefused();
        boundsOfSeen();
        namesOfSeen();
        seenOfTheMoment();
        mayMeetRefused();
        noFartherThanBears();
        aHankWithItself();
        between();
        range();
        end();
    }
}
