/** What the tests share: answers that are due, texts fed as bytes, hanks and partings in one line. */
abstract class Calls {
    static final int LOW = Integer.MIN_VALUE;
    static final int HIGH = Integer.MAX_VALUE;
    static final int NONE = -1;
    static final int BAD = -2;
    static final int STATE = -3;
    static final int FULL = -4;
    static final int NO_SUCH = -5;

    private static int wrong = 0;

    /** One call of an object. */
    interface Call {
        int on(SleeveDarker x);
    }

    /** Makes an object with something in it. */
    interface Maker {
        SleeveDarker make();
    }

    static void due(String call, long got, long want) {
        if (got != want) {
            wrong++;
            System.out.println(call + " answered " + got + ", due is " + want);
        }
    }

    /** The call answers so, and the object is then as one that never had it. */
    static void refused(String call, Maker maker, int want, Call refusal) {
        SleeveDarker x = maker.make();
        due(call, refusal.on(x), want);
        String is = stateOf(x);
        String was = stateOf(maker.make());
        if (!is.equals(was)) {
            wrong++;
            System.out.println(call + " changed what it refused: " + is + " was " + was);
        }
    }

    /** All that calls tell of an object, which is of no more use then. */
    private static String stateOf(SleeveDarker x) {
        StringBuilder all = new StringBuilder();
        tellAll(x, all);
        undoAll(x, all);
        all.append(" text ").append(x.text());
        for (int vat = 0; vat < 9; vat++) {
            all.append(" vat ").append(x.fade(vat, 0));
        }
        all.append(" back ").append(x.back());
        tellAll(x, all);
        undoAll(x, all);
        return all.toString();
    }

    private static void tellAll(SleeveDarker x, StringBuilder all) {
        all.append(" counts");
        for (int what = 0; what < 9; what++) {
            all.append(' ').append(x.count(what));
        }
        for (int hank = 0; hank < 6; hank++) {
            all.append(" hank");
            for (int what = 0; what < 3; what++) {
                all.append(' ').append(x.hankTold(hank, what));
            }
        }
        for (int coat = 0; coat < 8; coat++) {
            all.append(" coat");
            for (int what = 0; what < 7; what++) {
                all.append(' ').append(x.told(coat, what));
            }
        }
        all.append(" late ").append(x.late(0)).append(' ').append(x.late(99));
    }

    /** What comes back tells the partings. */
    private static void undoAll(SleeveDarker x, StringBuilder all) {
        for (int coat = 0; coat < 8; coat++) {
            all.append(" undo ").append(x.undo(coat));
        }
        for (int hank = 0; hank < 6; hank++) {
            all.append(" then ").append(x.hankTold(hank, 0));
        }
    }

    /** Feeds a text in pieces of up to 8 bytes and answers what the last feed() did. */
    static int feed(SleeveDarker x, String text) {
        int answer = 0;
        for (int at = 0; at < text.length(); at += 8) {
            int n = Math.min(8, text.length() - at);
            long bytes = 0;
            for (int i = n - 1; i >= 0; i--) {
                bytes = bytes << 8 | text.charAt(at + i);
            }
            answer = x.feed(n, bytes);
        }
        return answer;
    }

    static int text(SleeveDarker x, String text) {
        feed(x, text);
        return x.text();
    }

    static void force(SleeveDarker x, String text) {
        int number = text(x, text);
        if (number < 0) {
            due("text \"" + text + "\"", number, 1);
        }
        x.force(number);
    }

    /** What the text answers on a new object. */
    static void textDue(String text, long want) {
        due("text \"" + text + "\"", text(new SleeveDarker(), text), want);
    }

    static void faultDue(String bear, int placeInBear) {
        String text = "bear " + bear + ";seen 0;keep 0;";
        textDue(text, -100 - 5 - placeInBear);
    }

    static void soundDue(String bear) {
        textDue("bear " + bear + ";seen 0;keep 0;", 1);
    }

    /** The value of an E with size 3, worn 4, ounces 8 (both sleeves), told by bear (0 .. 99). */
    static void valueDue(String e, int want) {
        SleeveDarker x = new SleeveDarker();
        x.coat(0, 3, 4000);
        force(x, "bear " + e + ";seen 0;keep 0;");
        due("bear " + e, x.told(0, 20), want);
    }

    static int parting(int p0, int p1, int p2, int p3, int p4) {
        return (((p0 * 6 + p1) * 6 + p2) * 6 + p3) * 6 + p4;
    }

    /** A parting with one hank for all parts. */
    static int allOf(int hank) {
        return parting(hank, hank, hank, hank, hank);
    }

    static SleeveDarker withHanks(int... ouncesShadeVat) {
        SleeveDarker x = new SleeveDarker();
        for (int i = 0; i < ouncesShadeVat.length; i += 3) {
            x.hank(ouncesShadeVat[i], ouncesShadeVat[i + 1], ouncesShadeVat[i + 2]);
        }
        return x;
    }

    /** Prints how it went, and ends with 1 if an answer was not the one that is due. */
    static void end() {
        System.out.println(wrong == 0 ? "all answers are as due" : wrong + " answers are not as due");
        if (wrong != 0) {
            System.exit(1);
        }
    }
}
