/** The boundary sentences of promises 8 to 10: the tape, tokens, faults, values, the rule. */
public final class TextBoundsTest extends Calls {
    private static final String SOUND = "bear 0;seen 0;keep 0;";

    /** Two texts more, the second in force, something on the tape. */
    private static SleeveDarker some() {
        SleeveDarker x = withHanks(10, 50, 3, 20, 60, 4);
        x.coat(0, 4, 0);
        x.image();
        text(x, "bear 1;seen 11;keep 21;");
        force(x, "bear 2;seen 12;keep 22;");
        feed(x, "bear 3;seen 13;keep 23;");
        return x;
    }

    /** So many bytes on the tape, a sound text with keep 5 and blanks. */
    private static SleeveDarker onTape(int n) {
        SleeveDarker x = new SleeveDarker();
        x.coat(0, 4, 0);
        feed(x, "bear 0;seen 0;keep 5;" + " ".repeat(n - 21));
        return x;
    }

    private static SleeveDarker fullOfTexts() {
        SleeveDarker x = new SleeveDarker();
        x.coat(0, 4, 0);
        for (int i = 1; i < 6; i++) {
            text(x, "bear 0;seen 0;keep " + i + ";");
        }
        return x;
    }

    // Promise 8: "BAD: n is not 1 .. 8. FULL."
    private static void feedRefused() {
        int[] bad = {0, -1, 9, 16, LOW, HIGH};
        for (int n : bad) {
            refused("feed " + n, TextBoundsTest::some, BAD, x -> x.feed(n, 0));
            refused("feed " + n + " ahead of full", () -> onTape(160), BAD, x -> x.feed(n, 0));
        }
        for (int n = 1; n <= 8; n++) {
            int bytes = n;
            refused("feed " + n + " on 160", () -> onTape(160), FULL, x -> x.feed(bytes, -1));
            refused("feed " + n + ", one too many", () -> onTape(161 - bytes), FULL, x -> x.feed(bytes, -1));
            SleeveDarker x = onTape(160 - n);
            due("feed " + n + " to the brim", x.feed(n, 0x2020202020202020L), 160);
            due("bytes", x.count(4), 160);
            due("text of 160 bytes", x.text(), 1);
            due("tape is empty", x.count(4), 0);
            due("feed after text", x.feed(n, 0), n);
        }
    }

    // "The n lowest bytes of a number, the lowest first"
    private static void lowestBytes() {
        String text = "bear 0;seen 0;keep 17;  ";
        for (int n = 1; n <= 8; n++) {
            SleeveDarker x = new SleeveDarker();
            x.coat(0, 4, 0);
            for (int at = 0; at < text.length(); at += n) {
                long bytes = n == 8 ? 0 : -1L << 8 * n;
                for (int i = 0; i < n; i++) {
                    bytes |= (at + i < text.length() ? text.charAt(at + i) : 32L) << 8 * i;
                }
                due("feed by " + n, x.feed(n, bytes), at + n);
            }
            due("text by " + n, x.text(), 1);
            x.force(1);
            due("keep by " + n, x.told(0, 5), 17);
        }
        // The highest byte of a number below 0 is a byte as any other.
        SleeveDarker x = new SleeveDarker();
        due("feed 8", x.feed(8, Long.MIN_VALUE | 0x20202020202020L), 8);
        due("text with byte 128", x.text(), -107);
        due("feed 8", x.feed(8, Long.MAX_VALUE), 8);
        due("text with byte 255", x.text(), -100);
        due("feed 1 of a high number", x.feed(1, 0x7fffffffffffff20L), 1);
        due("text of a blank", x.text(), -101);
    }

    // Promise 9: "FULL (ahead of all): no TEXT more has room (THE TAPE stays)"; "6 TEXTS at most, TEXT 0 with them"
    private static void sixTextsAtMost() {
        SleeveDarker x = new SleeveDarker();
        for (int i = 1; i < 6; i++) {
            due("text", text(x, SOUND), i);
            due("texts", x.count(3), i + 1);
            due("tape", x.count(4), 0);
        }
        String[] tapes = {"", " ", SOUND, "?", "bear 0;seen 0;keep 12345;"};
        for (String tape : tapes) {
            x = fullOfTexts();
            feed(x, tape);
            due("text full", x.text(), FULL);
            due("texts stay", x.count(3), 6);
            due("the tape stays", x.count(4), tape.length());
            due("text full again", x.text(), FULL);
        }
        refused("text full", TextBoundsTest::fullOfTexts, FULL, SleeveDarker::text);
    }

    // "THE TAPE, which is empty then (by a FAULT, too), is a TEXT"
    private static void tapeIsEmptyThen() {
        SleeveDarker x = new SleeveDarker();
        due("fault of an empty tape", x.text(), -100);
        due("sound text after it", text(x, SOUND), 1);
        due("tape", x.count(4), 0);
        due("empty tape again", x.text(), -100);
        due("fault", text(x, "bear 0;seen ?"), -112);
        due("tape", x.count(4), 0);
        due("texts", x.count(3), 2);
        due("nothing of the fault is left", text(x, SOUND), 2);
        due("fault while five are open", text(x, "bear not(-(-1;"), -100 - 13);
        due("none is open then", text(x, "bear (((((1)))));seen 0;keep 0;"), 3);
        due("too early while five are open", text(x, "bear ((((("), -110);
        due("none is open then", text(x, "bear -----1;seen 0;keep 0;"), 4);
        due("rule", x.count(5), 0);
    }

    /** Where the text 0 of the document ends too early, or within a word. */
    private static void endsTooEarly() {
        String text = "bear 0 ; seen apart ; keep size ;";
        int[][] words = {{0, 4}, {9, 13}, {14, 19}, {22, 26}, {27, 31}};
        textDue(text, 1);
        for (int size = 0; size < text.length(); size++) {
            int place = size;
            for (int[] word : words) {
                if (size > word[0] && size < word[1]) {
                    place = word[0];
                }
            }
            textDue(text.substring(0, size), -100 - place);
        }
        textDue("1".repeat(160), -100);
        textDue("a".repeat(160), -100);
        textDue("bear 0;seen 0;keep " + " ".repeat(137) + "9999", -260);
        textDue("bear 0;seen 0;keep " + " ".repeat(137) + "size", -260);
        textDue("bear 0;seen 0;keep " + " ".repeat(136) + "99999", -255);
        textDue("bear 0;seen 0;keep " + " ".repeat(136) + "sizes", -255);
        // What stood on the tape before is no part of it.
        SleeveDarker x = new SleeveDarker();
        text(x, "bear 9999999999");
        due("two digits of ten", text(x, "bear 99"), -107);
        text(x, "bear sizesizesize");
        due("one word of three", text(x, "bear size"), -109);
        text(x, "bear 0;seen 0;keep 0;");
        due("all but the last sign", text(x, "bear 0;seen 0;keep 0"), -120);
        textDue("\n \n", -103);
        textDue("bear not", -108);
        textDue("bear -", -106);
        textDue("bear (", -106);
        textDue("bear (1", -107);
        textDue("bear 1+", -107);
        textDue("bear 1*", -107);
        textDue("bear 1<", -107);
        textDue("bear 1=", -107);
        textDue("bear 1 and", -110);
        textDue("bear 1 or ", -110);
        textDue(SOUND.substring(0, 20) + " ".repeat(140), -260);
        textDue(" ".repeat(160), -260);
    }

    /** Any byte between two numbers, ahead of a text, and behind it. */
    private static void everyByte() {
        for (int sign = 0; sign < 256; sign++) {
            boolean blank = sign == 32 || sign == 10;
            boolean operator = "+-*<=".indexOf(sign) >= 0;
            int between = -106;
            if (operator || sign >= '0' && sign <= '9') {
                between = 1;
            } else if (blank || sign == ';') {
                between = -107;
            }
            String byteNumber = " (byte " + sign + ")";
            due("between" + byteNumber, text(new SleeveDarker(), "bear 1" + (char) sign + "1;seen 0;keep 0;"), between);
            due("ahead" + byteNumber, text(new SleeveDarker(), (char) sign + SOUND), blank ? 1 : -100);
            due("behind" + byteNumber, text(new SleeveDarker(), SOUND + (char) sign), blank ? 1 : -121);
            boolean alone = sign >= '0' && sign <= '9';
            due("alone" + byteNumber, text(new SleeveDarker(), "bear " + (char) sign + ";seen 0;keep 0;"),
                    alone ? 1 : blank || sign == '(' || sign == '-' ? -106 : -105);
        }
    }

    // "TOKENS, each as long as can be"
    private static void tokensAreLong() {
        soundDue("size+worn");
        soundDue("1and 2");
        soundDue("1and2or3");
        soundDue("not1");
        soundDue("not(size)and(worn)or-1");
        soundDue("1\nand\n \n2");
        faultDue("sizeworn", 0);
        faultDue("1andnot2", 1);
        faultDue("notsize", 0);
        faultDue("nots", 0);
        faultDue("no", 0);
        faultDue("no t 1", 0);
        faultDue("1 an d 2", 2);
        faultDue("1 2", 2);
        faultDue("1size", 1);
        faultDue("size1", 4);
        faultDue("size 1", 5);
        faultDue("Size", 0);
        faultDue("sizE", 0);
        faultDue("sizeE", 4);
        textDue("bear0;seen0;keep0;", 1);
        textDue("bearsize;", -100);
        textDue("bear 0;seensize;", -107);
        textDue("bear 0;seen 0;keepx;", -114);
        textDue("bea r 0;", -100);
    }

    // "a WORD that is neither KEY nor NAME"; KEYS where they can't stand
    private static void words() {
        String[] names = {"ounces", "apart", "size", "worn", "faded", "vat"};
        for (String name : names) {
            soundDue(name);
            soundDue("-" + name + "*(" + name + ")");
            faultDue(name.substring(1), 0);
            faultDue(name.substring(0, name.length() - 1), 0);
            faultDue(name + "s", 0);
            faultDue(name + " " + name, name.length() + 1);
        }
        String[] keys = {"bear", "seen", "keep", "or", "and"};
        for (String key : keys) {
            faultDue(key, 0);
            faultDue("1+" + key, 2);
            faultDue("(" + key + ")", 1);
            faultDue("not " + key, 4);
            faultDue("-" + key, 1);
        }
        for (String key : new String[] {"bear", "seen", "keep", "not"}) {
            faultDue("1 " + key + " 1", 2);
        }
        // A word that is none doesn't stand for what was ahead of it.
        for (String word : new String[] {"x", "sizes", "bears", "ands"}) {
            faultDue("-" + word + " 1", 1);
            faultDue("(" + word + " 1)", 1);
            faultDue("not " + word + " 1", 4);
            faultDue("1 and " + word + " 1", 6);
            faultDue("1 or " + word, 5);
            faultDue("1+" + word + " 1", 2);
            faultDue("size " + word, 5);
            faultDue("1 " + word + " 1", 2);
            textDue("bear 0;" + word + " seen 0;keep 0;", -107);
            textDue("bear 0;seen 0;" + word + " keep 0;", -114);
        }
        textDue("ounces 0;", -100);
        textDue("not 0;", -100);
        textDue("keep 0;seen 0;bear 0;", -100);
        textDue("bear 0;bear 0;keep 0;", -107);
        textDue("bear 0;seen 0;seen 0;", -114);
        textDue(SOUND + "bear 0;", -121);
        textDue(SOUND + ";", -121);
        textDue(";" + SOUND, -100);
        textDue("bear 0 seen 0;keep 0;", -107);
        textDue("bear 0;seen 0 keep 0;", -114);
        textDue("bear;seen 0;keep 0;", -104);
        textDue("bear 0;seen;keep 0;", -111);
        textDue("bear 0;seen 0;keep;", -118);
    }

    // "NUMBERS (as many digits as stand there, 4 at most)"
    private static void numbers() {
        for (String number : new String[] {"0", "9", "99", "999", "9999", "0000", "0009"}) {
            soundDue(number);
            soundDue("-" + number);
        }
        for (String number : new String[] {"00000", "10000", "99999", "00009", "4294967296", "4294967297", "9".repeat(40)}) {
            faultDue(number, 0);
            faultDue("1+" + number, 2);
            faultDue("(" + number + ")", 1);
            faultDue("1 " + number, 2);
        }
        valueDue("0007", 7);
        valueDue("0000", 0);
        faultDue("9999 = 10000", 7);
        valueDue("9999 - 9950", 49);
        valueDue("1234 = 1*1000 + 2*100 + 3*10 + 4", 1);
    }

    // "a ( , a not, a - ahead of a ONE while 5 of these are open"
    private static void fiveOpenAtMost() {
        soundDue("(((((1)))))");
        soundDue("not not not not not 1");
        soundDue("-----1");
        soundDue("((((not 1))))");
        soundDue("((((-1))))");
        soundDue("not not not not(1)");
        soundDue("not not not not-1");
        soundDue("----(1)");
        soundDue("not(not(-1))");
        soundDue("(not(-(1)))");
        faultDue("((((((1))))))", 5);
        faultDue("(((((not 1)))))", 5);
        faultDue("(((((-1)))))", 5);
        faultDue("not not not not not(1)", 19);
        faultDue("not not not not not not 1", 20);
        faultDue("not not not not not-1", 19);
        faultDue("-----(1)", 5);
        faultDue("------1", 5);
        faultDue("-----not 1", 5);
        faultDue("not(not(-(1)))", 9);
        faultDue("not(not(--1))", 9);
        faultDue("not(-(-(1)))", 7);
        faultDue("not(not(not(1)))", 11);
        faultDue("(-(-(-1)))", 5);
    }

    // "(a ( till its ) , not and - till what they belong to ends)"
    private static void tillTheyEnd() {
        soundDue("(((((1)))))+(((((1)))))*(((((1)))))<(((((1)))))");
        soundDue("(((((1)))))and(((((1)))))or(((((1)))))");
        soundDue("((((1)+(1))*(1)))");
        soundDue("((((  (1)+(1)  ))))");
        faultDue("(((((1)+((1))))))", 9);
        soundDue("((((-1+-1*-1<-1 and -1 or -1))))");
        soundDue("-----1-----1");
        soundDue("-----1------1");
        soundDue("-----1*-----1");
        soundDue("-----1<-----1");
        soundDue("-----1=(((((1)))))");
        soundDue("not not not not not 1 and not not not not not 1 or not not not not not 1");
        soundDue("not not not not not 1 and(((((1)))))");
        soundDue("not not not not not 1 or-----1");
        soundDue("not not not not 1<-1");
        soundDue("not not not not 1=(1)+(1)*(1)");
        soundDue("not not not not not 1-1");
        soundDue("(((((1))+((1)))))");
        faultDue("not not not not not 1<-1", 22);
        faultDue("not not not not not 1=(1)", 22);
        faultDue("not not not not not 1+(1)", 22);
        faultDue("not not not not not 1*-1", 22);
        faultDue("not not not not not 1--1", 22);
        faultDue("-----1-------1", 12);
        faultDue("-----1*(((((-1)))))", 12);
        faultDue("((((1))))+((((((1))))))", 15);
        // The minus between two terms is not one of these.
        soundDue("(((((1-1)))))");
        soundDue("(((((1-1-1*1-1)))))");
        faultDue("(((((1--1)))))", 7);
        soundDue("not not not not not 1-1-1");
        // Each of the three E counts by itself.
        textDue("bear (((((1)))));seen not not not not not 1;keep -----1;", 1);
        textDue("bear (((((1;", -111);
    }

    // "NOT: not NOT, or SUM, perhaps < or = and a SUM", and what else the grammar leaves out
    private static void grammar() {
        faultDue("1<2<3", 3);
        faultDue("1<2=3", 3);
        faultDue("1=2<3", 3);
        faultDue("1=2=3", 3);
        faultDue("1==2", 2);
        faultDue("1<=2", 2);
        faultDue("<1", 0);
        faultDue("=1", 0);
        faultDue("+1", 0);
        faultDue("*1", 0);
        faultDue("1+", 2);
        faultDue("1++1", 2);
        faultDue("1+*1", 2);
        faultDue("1*+1", 2);
        faultDue("1**1", 2);
        faultDue("1-+1", 2);
        faultDue("1+not 1", 2);
        faultDue("1*not 1", 2);
        faultDue("-not 1", 1);
        faultDue("1<not 1", 2);
        faultDue("1=not 1", 2);
        faultDue("1 not 1", 2);
        faultDue("1(1)", 1);
        faultDue("(1)1", 3);
        faultDue("(1)(1)", 3);
        faultDue("()", 1);
        faultDue(")", 0);
        faultDue("(1))", 3);
        faultDue("((1)", 4);
        faultDue("(1;1)", 2);
        faultDue("and 1", 0);
        faultDue("or 1", 0);
        faultDue("1 and and 1", 6);
        faultDue("1 or and 1", 5);
        soundDue("(1<2)<3");
        soundDue("1<(2=3)");
        soundDue("1+(not 1)");
        soundDue("-(not 1)");
        soundDue("1<(not 1)");
        soundDue("not 1<2");
        soundDue("1 and not 1 or not not 1");
        soundDue("1--1");
        soundDue("1*-1");
        soundDue("1<-1");
    }

    // "An E is an int (32 bits, wrapping)"
    private static void wrapping() {
        String least = "128*256*256*256";
        valueDue(least + "<0", 1);
        valueDue("0<" + least + "-1", 1);
        valueDue(least + "-1+1<0", 1);
        valueDue(least + "+" + least, 0);
        valueDue("-(" + least + ")=" + least, 1);
        valueDue("-(" + least + ")<0", 1);
        valueDue("0-" + least + "<0", 1);
        valueDue(least + "*2", 0);
        valueDue(least + "*3<0", 1);
        valueDue("(" + least + ")*-1<0", 1);
        // Compared as they are, not by their difference, which wraps.
        valueDue(least + "<1", 1);
        valueDue("1<" + least, 0);
        valueDue(least + "-1<0-1", 0);
        valueDue("0-1<" + least + "-1", 1);
        valueDue("-2<" + least + "-1", 1);
        valueDue("256*256*256*256", 0);
        valueDue("256*256*256*256+7", 7);
        valueDue("256*256*256*256=0", 1);
        valueDue("256*256*256<0", 0);
        valueDue("9999*9999*9999=0-1027*1000*1000-349*1000-969", 1);
        valueDue("9999*9999<0", 0);
        valueDue("9999*9999=99*1000*1000+980*1000+1", 1);
    }

    // "of or, and, not, <, = 1 or 0 (what is not 0 is true)"
    private static void truth() {
        String[] no = {"0", "0*5", "1-1", "256*256*256*256", "-0", "not 1", "3<3", "3=4", "0 or 0", "1 and 0"};
        String[] yes = {"1", "2", "-1", "0-9999", "128*256*256*256", "256", "not 0", "3<4", "3=3", "0 or 7", "7 and -7"};
        for (String e : no) {
            valueDue("(" + e + ") or 0", 0);
            valueDue("0 or (" + e + ")", 0);
            valueDue("(" + e + ") and 1", 0);
            valueDue("1 and (" + e + ")", 0);
            valueDue("not (" + e + ")", 1);
        }
        for (String e : yes) {
            valueDue("(" + e + ") or 0", 1);
            valueDue("0 or (" + e + ")", 1);
            valueDue("(" + e + ") and 1", 1);
            valueDue("1 and (" + e + ")", 1);
            valueDue("(" + e + ") or 9", 1);
            valueDue("not (" + e + ")", 0);
        }
        valueDue("2 and 4", 1);
        valueDue("1 or 2", 1);
        valueDue("not not 9", 1);
        valueDue("not not 0", 0);
        valueDue("2 < 3", 1);
        valueDue("3 < 2", 0);
        valueDue("3 < 3", 0);
        valueDue("-3 < -2", 1);
        valueDue("-2 < -3", 0);
        valueDue("2 = 3", 0);
        valueDue("-2 = 0-2", 1);
    }

    /** Which of two operators binds more, and from which side. */
    private static void binding() {
        valueDue("0 and 0 or 1", 1);
        valueDue("1 or 0 and 0", 1);
        valueDue("not 0 and 0", 0);
        valueDue("not 0 or 1", 1);
        valueDue("not 0 + 1", 0);
        valueDue("not 2 = 2", 0);
        valueDue("not 1 < 0", 1);
        valueDue("1 + 1 < 3", 1);
        valueDue("2 < 1 + 1", 0);
        valueDue("5 = 2 + 3", 1);
        valueDue("1 < 2 and 3 < 2", 0);
        valueDue("1 < 2 or 3 < 2", 1);
        valueDue("1 + 2 * 3", 7);
        valueDue("2 * 3 + 1", 7);
        valueDue("2 * 3 * 4", 24);
        valueDue("9 - 2 * 3", 3);
        valueDue("9 - 3 - 2", 4);
        valueDue("9 - 3 + 2", 8);
        valueDue("9 - (3 + 2)", 4);
        valueDue("-2 + 5", 3);
        valueDue("-2 * -5", 10);
        valueDue("5 * -2 + 30", 20);
        valueDue("--7", 7);
        valueDue("9---2", 7);
        valueDue("(2 + 3) * 4", 20);
    }

    // Promise 10: "A TEXT is THE RULE: which was. BAD."
    private static void forceRefused() {
        int[] bad = {-1, 3, 6, LOW, HIGH};
        for (int text : bad) {
            refused("force " + text, TextBoundsTest::some, BAD, x -> x.force(text));
        }
        due("force 1 of 1", new SleeveDarker().force(1), BAD);
        SleeveDarker x = fullOfTexts();
        due("force 6 of 6", x.force(6), BAD);
        int was = 0;
        for (int text = 5; text >= 0; text--) {
            due("force " + text, x.force(text), was);
            due("the rule", x.count(5), text);
            due("keep of the rule", x.told(0, 5), text == 0 ? 4 : text);
            was = text;
        }
        due("force what is the rule", x.force(0), 0);
        // A text that faulted is none.
        x = some();
        x.text();
        text(x, "?");
        due("a fault is no text", x.force(4), BAD);
        due("the text ahead of it", x.force(3), 2);
    }

    /** What a text says is what it said when it was read, though others were read since. */
    private static void textsStay() {
        SleeveDarker x = fullOfTexts();
        for (int text = 1; text < 6; text++) {
            x.force(text);
            due("keep by text " + text, x.told(0, 5), text);
        }
        x = new SleeveDarker();
        x.coat(0, 4, 0);
        force(x, "bear 1+2*3;seen 0;keep size*2;");
        text(x, "bear 9;seen 9;keep 9;");
        feed(x, "keep");
        due("bear of the rule", x.told(0, 20), 7);
        due("keep of the rule", x.told(0, 5), 8);
    }

    /** Five texts of some 160 bytes on one object, each of as many values as can be. */
    private static void fullTexts() {
        SleeveDarker x = new SleeveDarker();
        x.coat(0, 4, 0);
        x.hank(0, 0, 0);
        x.hank(0, 0, 0);
        String[] texts = {"bear 1" + "+1".repeat(68) + ";seen 1;keep 1 ;", "bear 2;seen 2" + "+1".repeat(69) + ";keep 2;",
            "bear 3;seen 3;keep 3" + "+1".repeat(69) + " ;", "bear (((4)))" + "+-1".repeat(44) + ";seen 4;keep 4;",
            "bear size" + "-0".repeat(30) + ";seen 5" + "*1".repeat(30) + ";keep ounces+1;   "};
        int[][] due = {{69, 1, 1}, {2, 71, 2}, {3, 3, 72}, {0, 4, 4}, {4, 5, 28}};
        for (int i = 0; i < texts.length; i++) {
            due("bytes of text " + (i + 1), feed(x, texts[i]), texts[i].length());
            due("text", x.text(), i + 1);
        }
        for (int i = 0; i < texts.length; i++) {
            x.force(i + 1);
            due("bear of " + texts[i], x.told(0, 20), due[i][0]);
            due("seen of " + texts[i], x.seen(0, 1), due[i][1]);
            due("keep of " + texts[i], x.told(0, 5), due[i][2]);
        }
    }

    public static void main(String[] args) {
        feedRefused();
        lowestBytes();
        sixTextsAtMost();
        tapeIsEmptyThen();
        endsTooEarly();
        everyByte();
        tokensAreLong();
        words();
        numbers();
        fiveOpenAtMost();
        tillTheyEnd();
        grammar();
        wrapping();
        truth();
        binding();
        forceRefused();
        textsStay();
        fullTexts();
        end();
    }
}
