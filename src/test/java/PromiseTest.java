/** For each promise of the document: ordinary calls, the edges that it names, and wrong calls. */
public final class PromiseTest extends Calls {
    // Promise 1
    private static void newObject() {
        SleeveDarker x = new SleeveDarker();
        int[] counts = {0, 0, 0, 1, 0, 0, 0, 0, 0};
        for (int what = 0; what < counts.length; what++) {
            due("new count " + what, x.count(what), counts[what]);
        }
        due("new hankTold", x.hankTold(0, 0), -5);
        due("new told", x.told(0, 0), -5);
        due("new most", x.most(0), 0);
        due("new more", x.more(1), -1);
        due("new late", x.late(0), 0);
        due("new range", x.range(0), -1);
        due("new cell", x.cell(0, 0, 0), -11);
        due("new back", x.back(), -3);
        due("new fade", x.fade(8, 0), 0);
    }

    // Promise 2
    private static void hank() {
        SleeveDarker x = new SleeveDarker();
        due("hank least", x.hank(0, 0, 0), 0);
        due("hank greatest", x.hank(99, 99, 8), 1);
        int[][] bad = {{-1, 0, 0}, {100, 0, 0}, {0, -1, 0}, {0, 100, 0}, {0, 0, -1}, {0, 0, 9}, {LOW, 0, 0}, {0, HIGH, 0}};
        for (int[] each : bad) {
            due("hank bad", x.hank(each[0], each[1], each[2]), -2);
        }
        for (int i = 2; i < 6; i++) {
            due("hank", x.hank(1, 2, 3), i);
        }
        due("hank full", x.hank(1, 2, 3), -4);
        due("hank bad ahead of full", x.hank(100, 2, 3), -2);
        due("hanks", x.count(0), 6);
        due("hank 1 shade", x.hankTold(1, 1), 99);
    }

    // Promise 3
    private static void ounces() {
        SleeveDarker x = withHanks(5, 50, 0);
        due("ounces", x.ounces(0, 99), 5);
        due("ounces again", x.ounces(0, 0), 99);
        due("ounces held", x.hankTold(0, 0), 0);
        due("ounces 100", x.ounces(0, 100), -2);
        due("ounces -1", x.ounces(0, -1), -2);
        due("ounces of none", x.ounces(1, 1), -2);
        due("ounces of -1", x.ounces(-1, 1), -2);
        due("ounces unchanged", x.hankTold(0, 0), 0);
    }

    // Promise 4
    private static void fade() {
        SleeveDarker x = withHanks(5, 50, 8, 5, 30, 8, 5, 30, 7);
        due("fade", x.fade(8, 40), 0);
        due("faded shade", x.hankTold(0, 1), 10);
        due("faded to 0 at least", x.hankTold(1, 1), 0);
        due("other vat", x.hankTold(2, 1), 30);
        due("fade is so much, not more", x.fade(8, 50), 40);
        due("fade 51", x.fade(8, 51), -2);
        due("fade -1", x.fade(8, -1), -2);
        due("fade vat 9", x.fade(9, 0), -2);
        due("fade vat -1", x.fade(-1, 0), -2);
        due("fade back", x.fade(8, 0), 50);
        due("shade is back", x.hankTold(0, 1), 50);
    }

    // Promise 5
    private static void coat() {
        SleeveDarker x = new SleeveDarker();
        int[][] bad = {{-1, 1, 0}, {6, 1, 0}, {0, 0, 0}, {0, 10, 0}, {0, 1, -1}, {0, 1, 21000}, {LOW, 1, 0}, {0, HIGH, 0}, {0, 1, LOW}};
        for (int[] each : bad) {
            due("coat bad", x.coat(each[0], each[1], each[2]), -2);
        }
        for (int i = 0; i < 8; i++) {
            due("coat", x.coat(i % 6, i % 9 + 1, 20999), i);
        }
        due("coat full", x.coat(0, 1, 0), -4);
        due("coat bad ahead of full", x.coat(0, 10, 0), -2);
        due("coats", x.count(1), 8);
        due("number of coat", x.told(0, 2), 20);
        due("worth of coat", x.told(0, 3), 999);
    }

    // Promise 6
    private static void told() {
        SleeveDarker x = new SleeveDarker();
        for (int kind = 0; kind < 6; kind++) {
            x.coat(kind, 3, 5100);
        }
        int[] brings = {100, 95, 100, 100, 190, 105};
        int[] all = {21, 21, 21, 11, 21, 26};
        int[][] takes = {{4, 4, 6, 6, 1}, {4, 4, 6, 6, 1}, {4, 4, 6, 6, 1}, {0, 4, 0, 6, 1}, {4, 4, 6, 6, 1}, {5, 5, 7, 7, 2}};
        int[][] bears = {{0, 2, 2, 4, 4, 4}, {5, 7, 7, 9, 9, 9}, {1, 3, 3, 5, 5, 5}, {0, 2, 2, 4, 4, 4}, {2, 3, 3, 4, 4, 4}, {0, 2, 2, 4, 4, 4}};
        for (int kind = 0; kind < 6; kind++) {
            String who = "of kind " + kind + " told ";
            due(who + 0, x.told(kind, 0), kind);
            due(who + 1, x.told(kind, 1), 3);
            due(who + 2, x.told(kind, 2), 5);
            due(who + 3, x.told(kind, 3), brings[kind]);
            due(who + 4, x.told(kind, 4), all[kind]);
            due(who + 5, x.told(kind, 5), 3);
            due(who + 6, x.told(kind, 6), 0);
            for (int part = 0; part < 5; part++) {
                due(who + (10 + part), x.told(kind, 10 + part), takes[kind][part]);
            }
            for (int meeting = 0; meeting < 6; meeting++) {
                due(who + (20 + meeting), x.told(kind, 20 + meeting), bears[kind][meeting]);
            }
        }
        for (int what : new int[] {-1, 7, 9, 15, 19, 26, LOW, HIGH}) {
            due("told " + what, x.told(0, what), -5);
        }
        due("told of -1", x.told(-1, 0), -5);
        due("told of 6", x.told(6, 0), -5);
        x.coat(4, 1, 20000);
        due("brings below 0", x.told(6, 3), -40);
        force(x, "bear ounces + apart*size + worn + vat + faded; seen 0; keep ounces + apart + size*worn + faded + vat;");
        due("bear of coat 0, meeting 3", x.told(0, 23), 4 + 12 + 12 + 5 + 3);
        due("bear of coat 3, meeting 1", x.told(3, 21), 2 + 0 + 6 + 5 + 1);
        due("keep of coat 3", x.told(3, 5), 11 + 15);
    }

    // Promise 7
    private static void hankTold() {
        SleeveDarker x = withHanks(7, 60, 2);
        x.fade(2, 13);
        due("hankTold 0", x.hankTold(0, 0), 7);
        due("hankTold 1", x.hankTold(0, 1), 47);
        due("hankTold 2", x.hankTold(0, 2), 2);
        due("hankTold 3", x.hankTold(0, 3), -5);
        due("hankTold -1", x.hankTold(0, -1), -5);
        due("hankTold of 1", x.hankTold(1, 0), -5);
        due("hankTold of -1", x.hankTold(-1, 0), -5);
    }

    // Promise 8
    private static void feeding() {
        SleeveDarker x = new SleeveDarker();
        due("feed 0", x.feed(0, 1), -2);
        due("feed 9", x.feed(9, 1), -2);
        due("feed -1", x.feed(-1, 1), -2);
        for (int i = 1; i < 20; i++) {
            due("feed", x.feed(8, 0), 8 * i);
        }
        due("feed 7", x.feed(7, -1), 159);
        due("feed 2 full", x.feed(2, -1), -4);
        due("feed 9 bad ahead of full", x.feed(9, -1), -2);
        due("feed kept", x.count(4), 159);
        due("feed to the brim", x.feed(1, -1), 160);
        due("feed beyond", x.feed(1, -1), -4);
        // Only the n lowest bytes come, the lowest first; what stands above them does not.
        x = new SleeveDarker();
        feed(x, "bear 0;seen 0;keep ");
        due("feed 2 of 8", x.feed(2, 0x4141414141413B35L), 21);
        due("text by feed", x.text(), 1);
    }

    // Promise 9
    private static void reading() {
        textDue("bear 0 ; seen apart ; keep size ;", 1);
        textDue("bear 0;seen apart;keep size;", 1);
        textDue(" \nbear\n0 ; seen apart ; keep size ; \n", 1);
        textDue("bear0;seen0or1;keep(0)and(1);", 1);
        textDue("", -100);
        textDue("  ", -102);
        textDue("bear", -104);
        textDue("bear ", -105);
        textDue("bear 0", -106);
        textDue("bear 0;", -107);
        textDue("bear 0;seen 0;keep 0", -120);
        textDue("bear 0;seen 0;keep 0  ", -122);
        textDue("bear 0;seen 0;keep 0; ;", -122);
        textDue("bear 0;seen 0;keep 0;x", -121);
        textDue("bear 0;seen 0;keep 0;\t", -121);
        textDue("bear 0;seen 0;keep 0;" + (char) 0, -121);
        textDue("bear 0;seen 0;keep 0;" + (char) 200, -121);
        textDue("seen 0;", -100);
        textDue(" bears 0;", -101);
        textDue("bear 0;keep 0;", -107);
        textDue("Bear 0;", -100);
        faultDue("", 0);
        faultDue("size size", 5);
        faultDue("size2", 4);
        faultDue("9999 + 00000", 7);
        faultDue("12345", 0);
        faultDue("1 12345", 2);
        faultDue("1 + + 2", 4);
        faultDue("* 1", 0);
        faultDue("1 < 2 < 3", 6);
        faultDue("1 = 2 = 3", 6);
        faultDue("1 < not 2", 4);
        faultDue("1 + not 2", 4);
        faultDue("- not 2", 2);
        faultDue("( 1", 3);
        faultDue("1 )", 2);
        faultDue("()", 1);
        faultDue("1 or", 4);
        faultDue("1 or or 2", 5);
        faultDue("1 and or 2", 6);
        faultDue("bear", 0);
        faultDue("sizes", 0);
        faultDue("siz", 0);
        faultDue("1 / 2", 2);
        faultDue("1 , 2", 2);
        faultDue("((((((1))))))", 5);
        faultDue("- - - - - - 1", 10);
        faultDue("not not not not not not 1", 20);
        faultDue("not ( - ( - ( 1 ) ) )", 12);
        faultDue("((((( not 1 )))))", 6);
        faultDue("((((( - 1 )))))", 6);
        textDue("bear ((((( 1 - 1 ))))) ; seen - - - - - 1 - - - - - - 1; keep not not not not not 1 and not 1;", 1);
        textDue("bear 0;seen - (1) * - (1) + - (1);keep (((((1))))) - (((((1)))));", 1);
        texts();
    }

    private static void texts() {
        SleeveDarker x = new SleeveDarker();
        due("fault empties the tape", text(x, "bear ?"), -105);
        due("tape is empty", x.count(4), 0);
        for (int i = 1; i < 6; i++) {
            due("text", text(x, "bear 0;seen 0;keep 0;"), i);
            due("tape is empty", x.count(4), 0);
        }
        due("texts", x.count(3), 6);
        feed(x, "bear ?");
        due("text full ahead of fault", x.text(), -4);
        due("tape stays", x.count(4), 6);
    }

    /** Texts that fill all 160 bytes. */
    private static void fullTape() {
        String sound = "bear 0;seen 0;keep 0;";
        textDue(sound + " ".repeat(139), 1);
        textDue(sound + "a".repeat(139), -121);
        textDue(sound + "1".repeat(139), -121);
        textDue("bear 0;seen 0;keep 0" + "+1".repeat(69) + " ;", 1);
        textDue("bear 0;seen 0;keep 0" + "+1".repeat(70), -260);
        textDue("bear 0;seen 0;keep 0" + "*1".repeat(69) + "*;", -259);
        SleeveDarker x = new SleeveDarker();
        x.coat(0, 1, 0);
        force(x, "bear 0;seen 0;keep 0" + "+1".repeat(69) + " ;");
        due("keep of 69 ones", x.told(0, 5), 69);
        due("feed beyond 160 is full", feed(x, "0".repeat(161)), -4);
        due("text of 160 digits", x.text(), -100);
    }

    private static void values() {
        valueDue("7", 7);
        valueDue("ounces", 8);
        valueDue("size*10+worn", 34);
        valueDue("vat + faded + apart", 0);
        valueDue("2+3*4", 14);
        valueDue("(2+3)*4", 20);
        valueDue("20-3-4", 13);
        valueDue("20-(3-4)", 21);
        valueDue("- 3 + 10", 7);
        valueDue("10 - - 3", 13);
        valueDue("- 2 * - 3", 6);
        valueDue("0 - 5", 0);
        valueDue("100", 99);
        valueDue("3 < 4", 1);
        valueDue("4 < 4", 0);
        valueDue("4 = 4", 1);
        valueDue("1 + 1 = 2", 1);
        valueDue("5 or 0", 1);
        valueDue("0 or 0", 0);
        valueDue("5 and 7", 1);
        valueDue("5 and 0", 0);
        valueDue("not 5", 0);
        valueDue("not 0", 1);
        valueDue("not not 5", 1);
        valueDue("not 1 = 2", 1);
        valueDue("1 or 1 and 0", 1);
        valueDue("(1 or 1) and 0", 0);
        valueDue("not 1 or 1", 1);
        valueDue("not (1 or 1)", 0);
        valueDue("(3 < 4) * 40 + 2", 42);
        // 32 bits, wrapping: 65536 * 65536 is 0, 32768 * 65536 lies below 0.
        valueDue("256*256*256*256 + 5", 5);
        valueDue("128*256*256*256 < 0", 1);
        valueDue("128*256*256*256 - 1 < 0", 0);
    }

    // Promise 10
    private static void forcing() {
        SleeveDarker x = withHanks(1, 50, 0, 2, 57, 0);
        text(x, "bear 0;seen 1;keep 0;");
        text(x, "bear 0;seen 2;keep 0;");
        due("text is not yet the rule", x.seen(0, 1), 7);
        due("force 2", x.force(2), 0);
        due("rule", x.count(5), 2);
        due("seen by 2", x.seen(0, 1), 2);
        due("force 1", x.force(1), 2);
        due("seen by 1", x.seen(0, 1), 1);
        due("force 3", x.force(3), -2);
        due("force -1", x.force(-1), -2);
        due("force 0", x.force(0), 1);
        due("seen by 0", x.seen(0, 1), 7);
    }

    // Promise 11
    private static void seen() {
        SleeveDarker x = withHanks(10, 50, 3, 20, 57, 5, 30, 40, 3);
        due("seen", x.seen(0, 1), 7);
        due("seen turned", x.seen(1, 0), 7);
        x.fade(3, 10);
        due("seen faded", x.seen(0, 1), 17);
        due("seen alike", x.seen(0, 0), -5);
        due("seen none", x.seen(0, 3), -5);
        due("seen none", x.seen(-1, 0), -5);
        force(x, "bear 0; seen ounces*10 + faded*5 + vat; keep 0;");
        due("seen by names", x.seen(0, 1), 308);
        due("seen by the lesser's vat", x.seen(1, 0), 308);
        due("seen of like vats", x.seen(2, 0), 403);
        due("seen of other vats", x.seen(2, 1), 510);
        force(x, "bear 0; seen size + worn; keep 0;");
        due("size and worn are 0", x.seen(0, 1), 0);
        force(x, "bear 0; seen 1000; keep 0;");
        due("seen at most 999", x.seen(0, 1), 999);
        force(x, "bear 0; seen - 1; keep 0;");
        due("seen at least 0", x.seen(0, 1), 0);
    }

    // Promise 12
    private static void mayMeet() {
        SleeveDarker x = withHanks(0, 50, 0, 0, 52, 0, 0, 54, 0, 0, 55, 0);
        x.coat(0, 1, 0);
        due("sleeves apart", x.mayMeet(0, 0, 1), 0);
        due("sleeve, front 2", x.mayMeet(0, 1, 1), 1);
        due("sleeve, front 4", x.mayMeet(0, 2, 2), 0);
        due("front, back 4", x.mayMeet(0, 3, 2), 1);
        due("front, collar 5", x.mayMeet(0, 4, 3), 0);
        due("back, collar 3", x.mayMeet(0, 5, 103), 1);
        due("turned", x.mayMeet(0, 5, 301), 1);
        due("with itself", x.mayMeet(0, 0, 303), 1);
        due("hank 4", x.mayMeet(0, 0, 4), -2);
        due("hank 4 first", x.mayMeet(0, 0, 400), -2);
        due("hanks -1", x.mayMeet(0, 0, -1), -2);
        due("hanks low", x.mayMeet(0, 0, LOW), -2);
        due("hanks high", x.mayMeet(0, 0, HIGH), -2);
        due("meeting 6", x.mayMeet(0, 6, 1), -2);
        due("meeting -1", x.mayMeet(0, -1, 1), -2);
        due("coat 1", x.mayMeet(1, 0, 1), -2);
        due("coat -1", x.mayMeet(-1, 0, 1), -2);
        force(x, "bear 1 + vat; seen apart; keep 0;");
        due("bear 5 at meeting 4", x.mayMeet(0, 4, 3), 1);
        due("bear 1 at meeting 0", x.mayMeet(0, 0, 1), 0);
        force(x, "bear 0; seen 999; keep 0;");
        due("with itself by any rule", x.mayMeet(0, 0, 202), 1);
    }

    // Promise 13
    private static void between() {
        SleeveDarker x = withHanks(0, 50, 0, 0, 57, 1);
        due("between 1", x.between(0, 1, 1), 53);
        due("between 9", x.between(0, 1, 9), 50);
        due("between turned", x.between(1, 0, 9), 56);
        x.fade(1, 27);
        due("between faded", x.between(0, 1, 4), 46);
        due("between k 0", x.between(0, 1, 0), -2);
        due("between k 10", x.between(0, 1, 10), -2);
        due("between k -1", x.between(0, 1, -1), -2);
        due("between alike", x.between(1, 1, 1), -2);
        due("between none", x.between(0, 2, 1), -2);
        due("between none", x.between(-1, 1, 1), -2);
    }

    // Promise 14
    private static void range() {
        SleeveDarker x = withHanks(0, 50, 0, 0, 57, 1, 0, 45, 1);
        due("range 7", x.range(7), 12);
        due("range 3", x.range(3), 7);
        due("range 5", x.range(5), 5);
        due("range 0", x.range(0), -1);
        due("range 4", x.range(4), -1);
        due("range 8", x.range(8), -2);
        due("range 9", x.range(9), -2);
        due("range -1", x.range(-1), -2);
        due("range low", x.range(LOW), -2);
        force(x, "bear 0; seen faded*3; keep 0;");
        due("range by the rule", x.range(7), 3);
        due("range by the rule", x.range(6), 0);
        due("range of all six", withHanks(0, 1, 0, 0, 2, 0, 0, 3, 0, 0, 4, 0, 0, 5, 0, 0, 9, 0).range(63), 8);
    }

    // Promise 15
    private static void judge() {
        SleeveDarker x = withHanks(4, 50, 0, 6, 50, 0, 20, 52, 0, 20, 56, 0);
        x.coat(0, 1, 0);
        due("judge sound", x.judge(0, parting(0, 0, 1, 1, 1)), -1);
        due("judge no hank for part 0", x.judge(0, parting(4, 4, 5, 5, 5)), 10);
        due("judge no hank for part 4", x.judge(0, parting(0, 0, 0, 0, 4)), 14);
        due("judge hank 0 too small", x.judge(0, parting(0, 0, 0, 1, 1)), 20);
        due("judge hank 1 too small", x.judge(0, parting(1, 1, 1, 1, 3)), 21);
        due("judge lesser hank first", x.judge(0, parting(1, 1, 1, 1, 0)), 21);
        due("judge meeting 0", x.judge(0, parting(0, 2, 3, 3, 3)), 40);
        due("judge meeting 1", x.judge(0, parting(0, 0, 3, 0, 3)), 20);
        due("judge meeting 1 far", x.judge(0, parting(0, 0, 3, 3, 3)), 41);
        due("judge meeting 3", x.judge(0, parting(0, 0, 1, 3, 3)), 43);
        due("judge meeting 4", x.judge(0, parting(0, 0, 1, 1, 3)), 44);
        due("judge meeting 5 bears 4", x.judge(0, parting(0, 0, 2, 1, 3)), 45);
        due("judge meeting 5 sound", x.judge(0, parting(0, 0, 2, 2, 3)), -1);
        due("judge -1", x.judge(0, -1), -2);
        due("judge 7776", x.judge(0, 7776), -2);
        due("judge 7775", x.judge(0, 7775), 10);
        due("judge coat 1", x.judge(1, 0), -2);
        due("judge coat -1", x.judge(-1, 0), -2);
        // Parts 2 and 4 of this one are knitted, but meet as others do.
        x.coat(3, 1, 20000);
        x.ounces(1, 0);
        due("judge a part that takes nothing", x.judge(1, parting(2, 2, 1, 2, 1)), -1);
        due("judge its hank", x.judge(1, parting(2, 2, 4, 2, 1)), 12);
        due("judge its meeting", x.judge(1, parting(2, 2, 3, 2, 2)), 41);
        due("judge meeting 2", x.judge(1, parting(2, 2, 2, 2, 4)), 14);
    }

    /** Meetings 1 and 2 tell apart only if the sleeves may differ. */
    private static void judgeSecondSleeve() {
        SleeveDarker x = withHanks(50, 50, 0, 50, 54, 0, 50, 52, 0);
        x.coat(1, 1, 2000);
        due("judge meeting 0 of 2", x.judge(0, parting(0, 2, 2, 2, 2)), -1);
        due("judge meeting 0 of 4", x.judge(0, parting(0, 1, 2, 2, 2)), 40);
        x = withHanks(50, 50, 0, 50, 55, 0, 50, 52, 0);
        x.coat(1, 1, 2000);
        due("judge meeting 2", x.judge(0, parting(0, 2, 0, 0, 0)), -1);
        due("judge meeting 1", x.judge(0, parting(0, 2, 1, 1, 1)), 41);
        due("judge meeting 2 alone", x.judge(0, parting(2, 0, 1, 1, 1)), 42);
    }

    // Promise 16
    private static void can() {
        SleeveDarker x = withHanks(9, 50, 0, 10, 50, 0);
        x.coat(0, 1, 0);
        due("can", x.can(0, 0), 0);
        due("can bits", x.can(0, 1), 0);
        due("can ways", x.can(0, 2), 32);
        // All by hank 0 leaves 1; front and back by hank 1 leaves 5 and 0, and is the first such.
        x.ounces(0, 10);
        x.ounces(1, 4);
        due("can without bits", x.can(0, 0), parting(0, 0, 1, 1, 0));
        due("5 of 10 and 0 of 4 left", x.can(0, 1), 0);
        due("can NONE coat", x.can(1, 0), -2);
        due("can -1", x.can(-1, 0), -2);
        due("can what 3", x.can(0, 3), -2);
        due("can what -1", x.can(0, -1), -2);
        x.ounces(0, 4);
        due("can none", x.can(0, 0), -1);
        due("can none bits", x.can(0, 1), -1);
        due("can none ways", x.can(0, 2), 0);
        bits();
    }

    private static void bits() {
        // All by hank 0 leaves 2; the collar by hank 1 leaves 3 and 3, which are no bits.
        SleeveDarker x = withHanks(11, 50, 0, 4, 50, 0);
        x.coat(0, 1, 0);
        due("3 and 3 left", x.can(0, 0), parting(0, 0, 0, 0, 1));
        // A hank that no part takes from leaves no bits, though it has 1 or 2.
        x = withHanks(9, 50, 0, 2, 50, 0, 1, 50, 0);
        x.coat(0, 1, 0);
        due("bits of others do not count", x.can(0, 1), 0);
        due("can is done by one", x.can(0, 0), 0);
        // Parts that take nothing do not make a hank used.
        x = withHanks(2, 50, 0, 20, 50, 0);
        x.coat(3, 1, 15000);
        due("collar of a hank of 2 leaves 1", x.can(0, 0), 1);
        due("ways of parts that take nothing", x.can(0, 2), 32);
        x.ounces(1, 3);
        due("bits 1 of 2 are less than 2 of 3", x.can(0, 1), 1);
        due("can leaves the least", x.can(0, 0), 0);
        // 9 of 6 and 5: however it is parted, 2 are left in all, as 0 and 2, 1 and 1, or 2 and 0.
        x = withHanks(6, 50, 0, 5, 50, 0);
        x.coat(0, 1, 0);
        due("bits together", x.can(0, 1), 2);
        due("of like ones the first", x.can(0, 0), parting(0, 0, 0, 1, 1));
        x = withHanks(6, 50, 0, 6, 50, 0);
        x.coat(0, 1, 0);
        due("0 and 3 left", x.can(0, 1), 0);
        x = withHanks(3, 50, 0, 10, 50, 0);
        x.coat(0, 1, 0);
        due("can of a done one", x.knit(0, parting(1, 1, 1, 1, 1), 0), -1);
        due("can of a done one", x.can(0, 0), -1);
        x.ounces(0, 9);
        due("can of a done one", x.can(0, 0), 0);
    }

    // Promise 17
    private static void knit() {
        SleeveDarker x = withHanks(20, 50, 0, 20, 50, 0);
        x.coat(0, 2, 0);
        x.coat(0, 1, 0);
        x.coat(4, 1, 0);
        due("knit wrong", x.knit(0, parting(0, 0, 0, 0, 2), 9), 14);
        due("knit wrong is not done", x.told(0, 6), 0);
        due("knit wrong takes nothing", x.count(6), 40);
        due("knit", x.knit(0, parting(0, 0, 0, 1, 1), 9), -1);
        due("knit is done", x.told(0, 6), 1);
        due("knit takes of 0", x.hankTold(0, 0), 10);
        due("knit takes of 1", x.hankTold(1, 0), 15);
        due("knit again", x.knit(0, 0, 9), -3);
        due("knit again, bad ahead", x.knit(0, 7776, 9), -2);
        due("knit again, early day ahead", x.knit(0, 0, 8), -2);
        due("knit early", x.knit(1, 0, 8), -2);
        due("knit day 100", x.knit(1, 0, 100), -2);
        due("knit day -1", x.knit(1, 0, -1), -2);
        due("knit coat 3", x.knit(3, 0, 9), -2);
        due("knit parting -1", x.knit(1, -1, 9), -2);
        due("knit same day", x.knit(1, 0, 9), -1);
        due("knit left", x.hankTold(0, 0), 1);
        due("undo", x.undo(0), 10);
        due("undo", x.undo(1), 4);
        due("knit any day when none is done", x.knit(2, parting(1, 1, 1, 1, 1), 0), -1);
        x.undo(2);
        due("knit day 99", x.knit(2, parting(1, 1, 1, 1, 1), 99), -1);
    }

    // Promise 18
    private static void undo() {
        SleeveDarker x = withHanks(99, 50, 0, 99, 50, 0);
        x.coat(3, 9, 1000);
        due("undo what is not done", x.undo(0), -3);
        due("undo none", x.undo(1), -2);
        due("undo -1", x.undo(-1), -2);
        x.knit(0, parting(0, 1, 0, 1, 1), 3);
        due("knitted part takes nothing", x.hankTold(0, 0), 81);
        x.ounces(0, 99);
        due("undo", x.undo(0), 9 + 17 + 17);
        due("above 99", x.hankTold(0, 0), 116);
        due("hank 1", x.hankTold(1, 0), 99 - 29 + 26);
        due("undone", x.told(0, 6), 0);
        due("undo twice", x.undo(0), -3);
        due("ounces above 99 are told", x.ounces(0, 5), 116);
    }

    // Promise 19
    private static void most() {
        SleeveDarker x = withHanks(24, 50, 0);
        x.coat(0, 1, 10);
        x.coat(0, 2, 10);
        x.coat(0, 1, 10);
        x.coat(0, 1, 999);
        due("most", x.most(0), 20);
        due("most order", x.most(1), 12);
        due("most bound", x.most(2), 30);
        x.ounces(0, 18);
        due("most order of 18", x.most(1), 13);
        x.ounces(0, 14);
        due("fewest, first", x.most(1), 1);
        due("bound leaves out what takes more than all", x.most(2), 20);
        x.knit(0, 0, 0);
        x.ounces(0, 20);
        due("done ones are left out", x.most(1), 2);
        due("bound leaves done ones out", x.most(2), 20);
        x.ounces(0, 8);
        due("most of none", x.most(0), 0);
        due("most order of none", x.most(1), 0);
        due("most bound of none", x.most(2), 0);
        due("most 3", x.most(3), -2);
        due("most -1", x.most(-1), -2);
        mostOfTwisted();
    }

    private static void mostOfTwisted() {
        // One that brings less than 0 is not knitted, and is not in the bound.
        SleeveDarker x = withHanks(99, 50, 0);
        x.coat(4, 1, 20000);
        x.coat(0, 1, 0);
        x.coat(0, 1, 7);
        due("most without losses", x.most(0), 7);
        due("fewest coats", x.most(1), 3);
        due("bound without losses", x.most(2), 7);
        // Hanks of 14 and 10 may not meet by this rule; when 9 are gone, those of 5 and 10 may.
        x = withHanks(14, 50, 0, 10, 50, 0);
        x.coat(1, 1, 3000);
        x.coat(0, 2, 30);
        force(x, "bear 0; seen (15 < ounces) * 9; keep 0;");
        due("one that brings less than 0 lets the other be", x.most(0), 27);
        due("its order", x.most(1), 12);
        due("its bound", x.most(2), 30);
        x = withHanks(14, 50, 0, 10, 50, 0);
        x.coat(0, 2, 30);
        x.coat(1, 1, 3000);
        force(x, "bear 0; seen (15 < ounces) * 9; keep 0;");
        due("the other order", x.most(1), 21);
        due("what it brings", x.most(0), 27);
        due("most changes nothing", x.count(6), 24);
        // CAN takes 9 of hank 1, which leaves no bits; by hank 0 the 11 of the other could not be.
        x = withHanks(11, 50, 0, 9, 70, 0);
        x.coat(0, 1, 5);
        x.coat(3, 2, 4006);
        due("each by CAN", x.most(0), 11);
        due("its order", x.most(1), 12);
    }

    /** All six hanks, so that every row is full. */
    private static void sixHanks() {
        SleeveDarker x = withHanks(9, 50, 0, 9, 60, 1, 9, 70, 2, 9, 80, 3, 9, 90, 4, 11, 99, 8);
        x.coat(0, 1, 10);
        x.coat(0, 1, 20);
        x.coat(0, 1, 40);
        due("six: seen", x.seen(5, 0), 49);
        due("six: range", x.range(63), 49);
        due("six: range 64", x.range(64), -2);
        due("six: mayMeet", x.mayMeet(0, 3, 505), 1);
        due("six: mayMeet 0", x.mayMeet(0, 3, 0), 1);
        due("six: judge", x.judge(0, 7775), -1);
        due("six: ways", x.can(0, 2), 6);
        due("six: most", x.most(0), 70);
        due("six: order", x.most(1), 123);
        due("six: bound", x.most(2), 70);
        due("six: more", x.more(50), -1);
        due("six: left", x.count(6), 56);
        due("six: knit", x.knit(0, 7775, 0), -1);
        due("six: bits", x.count(8), 32);
        due("six: undo", x.undo(0), 4);
        due("six: came back", x.hankTold(5, 0), 6);
        due("six: image", x.image(), 0);
        due("six: back", x.back(), 0);
        for (int hank = 1; hank < 6; hank++) {
            x.ounces(hank, 0);
        }
        due("bound of just all ounces", x.most(2), 70);
        x.ounces(0, 8);
        due("bound of one ounce less", x.most(2), 0);
        due("six: more of the last brings like", x.more(9), 0);
        due("six: more 19 of hank 0 alone brings all three", x.more(19), 0);
        x.ounces(0, 0);
        x.ounces(5, 8);
        due("six: more of the last", x.more(1), 5);
    }

    // Promise 20
    private static void more() {
        SleeveDarker x = withHanks(5, 50, 0, 8, 90, 0, 8, 70, 0);
        x.coat(0, 1, 10);
        due("more 1: the least of like ones", x.more(1), 1);
        due("more 4: the least of like ones", x.more(4), 0);
        x.coat(0, 2, 30);
        due("more 7: brings most", x.more(7), 1);
        due("more 10", x.more(10), 0);
        due("more 50", x.more(50), 0);
        due("more changes nothing", x.count(6), 21);
        due("more 0", x.more(0), -2);
        due("more 51", x.more(51), -2);
        due("more -1", x.more(-1), -2);
        x.ounces(2, 99);
        due("none lets it bring more", x.more(50), -1);
    }

    // Promise 21
    private static void late() {
        SleeveDarker x = withHanks(99, 50, 0);
        x.coat(4, 1, 5000);
        x.coat(4, 1, 20000);
        x.coat(1, 1, 1000);
        due("late 4", x.late(4), 0);
        due("late 5", x.late(5), 0);
        due("late 25", x.late(25), 25);
        x.knit(0, 0, 8);
        due("late by its day", x.late(25), 8);
        due("late by its day", x.late(0), 3);
        due("late 99", x.late(99), 82);
        due("late 100", x.late(100), -2);
        due("late -1", x.late(-1), -2);
        x.undo(0);
        due("late undone", x.late(6), 1);
    }

    // Promises 22, 23
    private static void imageAndBack() {
        SleeveDarker x = withHanks(50, 50, 0, 50, 50, 1);
        x.coat(0, 1, 0);
        x.coat(4, 1, 2000);
        text(x, "bear 0;seen 5;keep 7;");
        due("back without an image", x.back(), -3);
        x.fade(1, 10);
        x.knit(1, parting(1, 1, 1, 1, 1), 6);
        due("image", x.image(), 1);
        x.undo(1);
        x.knit(1, parting(0, 0, 0, 0, 0), 9);
        x.knit(0, parting(0, 0, 0, 0, 0), 20);
        x.ounces(1, 3);
        x.fade(0, 5);
        x.fade(1, 5);
        x.force(1);
        x.hank(44, 50, 2);
        x.coat(0, 1, 0);
        x.ounces(2, 43);
        x.knit(2, parting(2, 2, 2, 2, 2), 30);
        due("back", x.back(), 2);
        due("ounces 0", x.hankTold(0, 0), 50);
        due("ounces 1", x.hankTold(1, 0), 41);
        due("ounces of a hank since", x.hankTold(2, 0), 34);
        due("faded 0", x.fade(0, 0), 0);
        due("faded 1", x.fade(1, 10), 10);
        due("rule", x.count(5), 0);
        due("not done", x.told(0, 6), 0);
        due("done", x.told(1, 6), 1);
        due("since", x.told(2, 6), 1);
        due("coats stay", x.count(1), 3);
        due("texts stay", x.count(3), 2);
        due("day", x.late(99), 4);
        due("undo by its parting", x.undo(1), 4);
        due("undo by its parting", x.hankTold(1, 0), 45);
        due("back again", x.back(), 2);
        due("done again", x.told(1, 6), 1);
        x.undo(2);
        x.undo(1);
        due("image anew", x.image(), 0);
        due("back to the new one", x.back(), 0);
    }

    // Promise 24
    private static void count() {
        SleeveDarker x = withHanks(1, 50, 0, 2, 50, 0, 3, 50, 0, 0, 50, 0, 40, 50, 0);
        x.coat(0, 1, 0);
        x.coat(0, 2, 0);
        x.coat(0, 3, 0);
        text(x, "bear 0;seen 0;keep size*2+ounces;");
        feed(x, "abc");
        x.knit(0, parting(4, 4, 4, 4, 4), 0);
        x.knit(1, parting(4, 4, 4, 4, 4), 0);
        int[] due = {5, 3, 2, 2, 3, 0, 22, 3, 3};
        for (int what = 0; what < due.length; what++) {
            due("count " + what, x.count(what), due[what]);
        }
        x.text();
        x.force(1);
        due("count 5", x.count(5), 1);
        due("count 7", x.count(7), 11 + 19);
        due("count 9", x.count(9), -2);
        due("count -1", x.count(-1), -2);
        force(x, "bear 0;seen 0;keep 100;");
        due("keep at most 99", x.count(7), 198);
        force(x, "bear 0;seen 0;keep 0-1;");
        due("keep at least 0", x.count(7), 0);
    }

    // Promise 25
    private static void sheet() {
        SleeveDarker x = new SleeveDarker();
        due("sheet", x.sheet(0, 0, 40), 1);
        due("sheet 3", x.sheet(3, 2, 0), 1);
        due("sheet 4", x.sheet(4, 0, 1), -2);
        due("sheet -1", x.sheet(-1, 0, 1), -2);
        due("sort 3", x.sheet(0, 3, 1), -2);
        due("sort -2", x.sheet(0, -2, 1), -2);
        due("sort 3 ahead of n", x.sheet(0, 3, -1), -2);
        due("n 41", x.sheet(0, 0, 41), -2);
        due("n -1", x.sheet(0, 0, -1), -14);
        due("n low", x.sheet(0, 0, LOW), -14);
        due("refusals change nothing", x.cell(0, 39, 1), 1);
        due("of none", x.cell(3, 0, 1), -12);
        due("missing", x.sheet(0, -1, LOW), 1);
        due("missing, n 41", x.sheet(3, -1, 41), 1);
        due("is missing", x.cell(0, 0, 1), -11);
        // A row made anew is all 0.
        x.sheet(1, 2, 3);
        x.cell(1, 0, 9);
        x.sheet(1, 2, 3);
        x.hanks(1, 2, 0, 1);
        due("all 0", x.hankTold(0, 0), 0);
    }

    // Promise 26
    private static void cell() {
        SleeveDarker x = new SleeveDarker();
        x.sheet(0, 0, 3);
        x.sheet(1, 1, 3);
        x.sheet(2, 2, 3);
        due("cell", x.cell(0, 0, 256 + 7), 1);
        due("cell", x.cell(1, 0, 65536 + 8), 1);
        due("cell", x.cell(2, 0, 9), 1);
        due("byte hank", x.hanks(0, 0, 0, 1), 1);
        due("short hank", x.hanks(1, 1, 0, 1), 1);
        due("int hank", x.hanks(2, 2, 0, 1), 1);
        due("lowest 8 bits", x.hankTold(0, 0), 7);
        due("lowest 16 bits", x.hankTold(1, 0), 8);
        x.cell(1, 0, 256 + 7);
        due("short keeps 16 bits", x.hanks(1, 1, 0, 1), 0);
        x.cell(2, 0, 65536 + 7);
        due("int keeps all bits", x.hanks(2, 2, 0, 1), 0);
        due("cell 3", x.cell(0, 3, 1), -12);
        due("cell -1", x.cell(0, -1, 1), -12);
        due("cell of missing", x.cell(3, -1, 1), -11);
        due("cell of 4", x.cell(4, 0, 1), -2);
        due("cell of -1", x.cell(-1, 0, 1), -2);
    }

    // Promise 27
    private static void copy() {
        SleeveDarker x = new SleeveDarker();
        x.sheet(0, 2, 6);
        x.sheet(1, 2, 4);
        x.sheet(2, 1, 6);
        for (int i = 0; i < 6; i++) {
            x.cell(0, i, i + 1);
        }
        due("copy", x.copy(0, 3, 1, 1, 3), 3);
        x.hanks(1, 2, 0, 1);
        x.hanks(1, 2, 1, 1);
        due("copy came", x.hankTold(0, 0), 0);
        due("copy came", x.hankTold(0, 1), 4);
        due("copy came", x.hankTold(1, 2), 6);
        due("copy onto itself", x.copy(0, 0, 0, 1, 5), 5);
        x.hanks(0, 2, 0, 2);
        int[] due = {1, 1, 2, 3, 4, 5};
        for (int i = 0; i < 6; i++) {
            due("as they were " + i, x.hankTold(2 + i / 3, i % 3), due[i]);
        }
        due("copy 0", x.copy(0, 6, 1, 4, 0), 0);
        due("copy beyond", x.copy(0, 7, 1, 0, 0), -12);
        due("copy beyond", x.copy(0, 0, 1, 5, 0), -12);
        due("copy beyond", x.copy(0, 4, 1, 0, 3), -12);
        due("copy beyond", x.copy(0, 0, 1, 2, 3), -12);
        due("copy -1", x.copy(0, -1, 1, 0, 1), -12);
        due("copy to -1", x.copy(0, 0, 1, -1, 1), -12);
        due("copy n -1", x.copy(0, 0, 1, 0, -1), -12);
        due("copy n high", x.copy(0, 1, 1, 1, HIGH), -12);
        due("copy i high", x.copy(0, HIGH, 1, 1, 1), -12);
        due("copy n low", x.copy(0, 0, 1, 0, LOW), -12);
        due("copy of unlike sorts", x.copy(0, 0, 2, 0, 1), -13);
        due("copy of unlike sorts ahead", x.copy(0, -1, 2, 0, -1), -13);
        due("copy to missing", x.copy(0, 0, 3, 0, -1), -11);
        due("copy of missing", x.copy(3, 0, 0, 0, 1), -11);
        due("copy to 4", x.copy(3, 0, 4, 0, 1), -2);
        due("copy of -1", x.copy(-1, 0, 0, 0, 1), -2);
    }

    // Promise 28
    private static void hanks() {
        SleeveDarker x = new SleeveDarker();
        x.sheet(0, 0, 40);
        for (int i = 0; i < 40; i++) {
            x.cell(0, i, i % 3 == 2 ? 8 : i);
        }
        due("sheet 4", x.hanks(4, 0, 0, 1), -2);
        due("sheet -1", x.hanks(-1, 0, 0, 1), -2);
        due("sort -1", x.hanks(0, -1, 0, 1), -2);
        due("sort 3", x.hanks(0, 3, 0, 1), -2);
        due("n -1", x.hanks(0, 0, 0, -1), -2);
        due("n 13", x.hanks(0, 0, 0, 13), -2);
        due("bad ahead of missing", x.hanks(1, 0, 0, 13), -2);
        due("missing", x.hanks(1, 0, 0, 1), -11);
        due("missing, n 0", x.hanks(1, 2, 0, 0), -11);
        due("other sort", x.hanks(0, 1, 0, 1), -13);
        due("other sort, n 0", x.hanks(0, 1, 0, 0), -13);
        due("n 0", x.hanks(0, 0, 0, 0), 0);
        due("n 0 reads no place", x.hanks(0, 0, HIGH, 0), 0);
        due("from -1", x.hanks(0, 0, -1, 1), -12);
        due("from high", x.hanks(0, 0, HIGH, 12), -12);
        due("from low", x.hanks(0, 0, LOW, 12), -12);
        due("from 38", x.hanks(0, 0, 38, 1), -12);
        due("none yet", x.count(0), 0);
        due("what stood ahead came", x.hanks(0, 0, 33, 3), -12);
        due("two came", x.count(0), 2);
        due("ounces", x.hankTold(1, 0), 36);
        due("shade", x.hankTold(1, 1), 37);
        due("vat", x.hankTold(1, 2), 8);
        due("from 1: vats are none such", x.hanks(0, 0, 9, 2), 2);
        due("left out", x.hanks(0, 0, 10, 3), 0);
        due("till it is full", x.hanks(0, 0, 0, 12), 2);
        due("full", x.count(0), 6);
        due("all left out", x.hanks(0, 0, 0, 12), 0);
    }

    // Promise 29
    private static void taken() {
        SleeveDarker x = new SleeveDarker();
        boolean[][] under = {
            {true, false, false, false, false, false},
            {true, true, false, false, false, false},
            {true, false, true, false, false, false},
            {true, false, false, true, false, false},
            {true, true, false, false, true, false},
            {true, false, true, false, false, true}};
        for (int kind = 0; kind < 6; kind++) {
            x.coat(kind, 1, 7000 + kind);
            for (int k = 0; k < 6; k++) {
                due("kind " + kind + " taken for " + k, x.taken(kind, k), under[kind][k] ? kind : -13);
            }
        }
        due("taken k 6", x.taken(0, 6), -2);
        due("taken k -1", x.taken(9, -1), -2);
        due("taken of 6", x.taken(6, 0), -11);
        due("taken of -1", x.taken(-1, 5), -11);
    }

    public static void main(String[] args) {
        newObject();
        hank();
        ounces();
        fade();
        coat();
        told();
        hankTold();
        feeding();
        reading();
        fullTape();
        values();
        forcing();
        seen();
        mayMeet();
        between();
        range();
        judge();
        judgeSecondSleeve();
        can();
        knit();
        undo();
        most();
        sixHanks();
        more();
        late();
        imageAndBack();
        count();
        sheet();
        cell();
        copy();
        hanks();
        taken();
        end();
    }
}
