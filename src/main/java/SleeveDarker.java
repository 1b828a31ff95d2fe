import java.util.Arrays;

/** Hanks of blue, coats of parts that meet, and which hank may go to which part. */
public final class SleeveDarker {
    public static final int NONE = -1, BAD = -2, STATE = -3, FULL = -4;
    public static final long NO = -4611686018427387904L;

    private static final int NO_SUCH = -5;
    private static final int MISSING = -11;
    private static final int OUTSIDE = -12;
    private static final int OTHER_SORT = -13;
    private static final int BELOW_ZERO = -14;
    private static final int FAULT_BASE = -100;

    private static final int MAX_HANKS = 6;
    private static final int MAX_OUNCES = 99;
    private static final int MAX_SHADE = 99;
    private static final int VATS = 9;
    private static final int MAX_FADED = 50;

    private static final int MAX_COATS = 8;
    private static final int KINDS = 6;
    private static final int MAX_SIZE = 9;
    private static final int MAX_REST = 20999;
    private static final int PARTS = 5;
    private static final int MEETINGS = 6;
    private static final int[] LOWER_PART = {0, 0, 1, 2, 2, 3};
    private static final int[] HIGHER_PART = {1, 2, 2, 3, 4, 4};

    private static final int PARTINGS = 7776;
    private static final int[] DIGIT_WEIGHT = {1296, 216, 36, 6, 1};
    private static final int MAX_DAY = 99;
    private static final int PLANNED = 3;
    private static final int MAX_MORE = 50;

    private static final int MAX_TEXTS = 6;
    private static final int TAPE_SIZE = 160;
    private static final int MAX_SEEN = 999;
    private static final int MAX_BEAR = 99;
    private static final int MAX_KEEP = 99;

    private static final int SHEETS = 4;
    private static final int SORTS = 3;
    private static final int NO_SHEET = -1;
    private static final int SHEET_SIZE = 40;
    private static final int MAX_ROWS = 12;

    private final Wool wool = new Wool();
    private final Coat[] coats = new Coat[MAX_COATS];
    private int coatCount;

    private final Reader reader = new Reader();
    private final Text[] texts = new Text[MAX_TEXTS];
    private int textCount;
    private Text rule;
    private int ruleNumber;

    private final Cutter cutter = new Cutter();
    private final Planner planner = new Planner();

    private boolean imageKept;
    private int imageCoats;
    private int imageRule;

    private final int[][] sheets = new int[SHEETS][SHEET_SIZE];
    private final int[] sheetSort = {NO_SHEET, NO_SHEET, NO_SHEET, NO_SHEET};
    private final int[] sheetSize = new int[SHEETS];

    public SleeveDarker() {
        rule = Text.firstRule();
        texts[0] = rule;
        textCount = 1;
    }

    // ---- hanks, coats

    public int hank(int ounces, int shade, int vat) {
        return wool.addHank(ounces, shade, vat);
    }

    public int ounces(int hank, int n) {
        if (!wool.has(hank) || !isWithin(n, 0, MAX_OUNCES)) {
            return BAD;
        }
        int before = wool.ounces[hank];
        wool.ounces[hank] = n;
        return before;
    }

    public int fade(int vat, int n) {
        if (!isWithin(vat, 0, VATS - 1) || !isWithin(n, 0, MAX_FADED)) {
            return BAD;
        }
        int before = wool.faded[vat];
        wool.faded[vat] = n;
        return before;
    }

    public int coat(int kind, int size, int rest) {
        if (!isWithin(kind, 0, KINDS - 1) || !isWithin(size, 1, MAX_SIZE) || !isWithin(rest, 0, MAX_REST)) {
            return BAD;
        }
        if (coatCount >= MAX_COATS) {
            return FULL;
        }
        coats[coatCount] = newCoat(kind, size, rest);
        coatCount++;
        return coatCount - 1;
    }

    public int told(int coat, int what) {
        Coat asked = coatAt(coat);
        if (asked == null) {
            return NO_SUCH;
        }
        if (isWithin(what, 10, 9 + PARTS)) {
            return asked.takes(what - 10);
        }
        if (isWithin(what, 20, 19 + MEETINGS)) {
            return rule.bearsInAll(asked, what - 20);
        }
        switch (what) {
            case 0: return asked.kind;
            case 1: return asked.size;
            case 2: return asked.number;
            case 3: return asked.brings();
            case 4: return asked.takesInAll();
            case 5: return rule.keepBy(asked);
            case 6: return asked.done ? 1 : 0;
            default: return NO_SUCH;
        }
    }

    public int hankTold(int hank, int what) {
        if (!wool.has(hank)) {
            return NO_SUCH;
        }
        switch (what) {
            case 0: return wool.ounces[hank];
            case 1: return wool.fadedShade(hank);
            case 2: return wool.vat[hank];
            default: return NO_SUCH;
        }
    }

    // ---- texts

    public int feed(int n, long bytes) {
        if (!isWithin(n, 1, 8)) {
            return BAD;
        }
        if (reader.tapeSize + n > TAPE_SIZE) {
            return FULL;
        }
        for (int i = 0; i < n; i++) {
            reader.addByte((byte) (bytes >>> (8 * i)));
        }
        return reader.tapeSize;
    }

    public int text() {
        if (textCount >= MAX_TEXTS) {
            return FULL;
        }
        Text made = reader.readTape();
        if (made == null) {
            return FAULT_BASE - reader.fault;
        }
        texts[textCount] = made;
        textCount++;
        return textCount - 1;
    }

    public int force(int text) {
        if (!isWithin(text, 0, textCount - 1)) {
            return BAD;
        }
        int before = ruleNumber;
        useRule(text);
        return before;
    }

    // ---- shades

    public int seen(int a, int b) {
        if (!wool.has(a) || !wool.has(b) || a == b) {
            return NO_SUCH;
        }
        return rule.seenApart(wool, wool.ounces, a, b);
    }

    public int mayMeet(int coat, int meeting, int hanks) {
        Coat asked = coatAt(coat);
        if (asked == null || !isWithin(meeting, 0, MEETINGS - 1) || hanks < 0) {
            return BAD;
        }
        int one = hanks / 100;
        int other = hanks % 100;
        if (!wool.has(one) || !wool.has(other)) {
            return BAD;
        }
        cutter.layOut(asked, rule, wool, wool.ounces);
        return cutter.fitTogether(meeting, one, other) ? 1 : 0;
    }

    public int between(int a, int b, int k) {
        if (!wool.has(a) || !wool.has(b) || a == b || !isWithin(k, 1, 9)) {
            return BAD;
        }
        return (k * wool.fadedShade(a) + wool.fadedShade(b)) / (k + 1);
    }

    public int range(int hanks) {
        if (!isWithin(hanks, 0, (1 << wool.size) - 1)) {
            return BAD;
        }
        int greatest = NONE;
        for (int a = 0; a < wool.size; a++) {
            for (int b = a + 1; b < wool.size; b++) {
                if (hasBit(hanks, a) && hasBit(hanks, b)) {
                    greatest = Math.max(greatest, rule.seenApart(wool, wool.ounces, a, b));
                }
            }
        }
        return greatest;
    }

    // ---- partings

    public int judge(int coat, int parting) {
        Coat asked = coatAt(coat);
        if (asked == null || !isWithin(parting, 0, PARTINGS - 1)) {
            return BAD;
        }
        cutter.layOut(asked, rule, wool, wool.ounces);
        return cutter.firstWrong(parting);
    }

    public int can(int coat, int what) {
        Coat asked = coatAt(coat);
        if (asked == null || !isWithin(what, 0, 2)) {
            return BAD;
        }
        cutter.layOut(asked, rule, wool, wool.ounces);
        cutter.findBest(true);
        switch (what) {
            case 0: return cutter.best;
            case 1: return cutter.bestBits;
            default: return cutter.ways;
        }
    }

    public int knit(int coat, int parting, int day) {
        Coat asked = coatAt(coat);
        if (asked == null || !isWithin(parting, 0, PARTINGS - 1) || !isWithin(day, lastDay(), MAX_DAY)) {
            return BAD;
        }
        if (asked.done) {
            return STATE;
        }
        cutter.layOut(asked, rule, wool, wool.ounces);
        int wrong = cutter.firstWrong(parting);
        if (wrong == NONE) {
            cutter.takeAway(parting, wool.ounces);
            asked.finish(parting, day);
        }
        return wrong;
    }

    public int undo(int coat) {
        Coat asked = coatAt(coat);
        if (asked == null) {
            return BAD;
        }
        if (!asked.done) {
            return STATE;
        }
        int all = 0;
        for (int part = 0; part < PARTS; part++) {
            int comesBack = Math.max(asked.takes(part) - 1, 0);
            wool.ounces[hankOf(asked.parting, part)] += comesBack;
            all += comesBack;
        }
        asked.done = false;
        return all;
    }

    public int most(int what) {
        if (!isWithin(what, 0, 2)) {
            return BAD;
        }
        if (what == 2) {
            return planner.bound(coats, wool.ouncesInAll());
        }
        planner.plan(coats, rule, wool, NONE, 0);
        return what == 0 ? planner.bestValue : planner.bestOrder;
    }

    public int more(int n) {
        if (!isWithin(n, 1, MAX_MORE)) {
            return BAD;
        }
        planner.plan(coats, rule, wool, NONE, 0);
        int value = planner.bestValue;
        int found = NONE;
        for (int hank = 0; hank < wool.size; hank++) {
            planner.plan(coats, rule, wool, hank, n);
            if (planner.bestValue > value) {
                value = planner.bestValue;
                found = hank;
            }
        }
        return found;
    }

    public int late(int day) {
        if (!isWithin(day, 0, MAX_DAY)) {
            return BAD;
        }
        int all = 0;
        for (Coat each : coats) {
            if (each instanceof Promised promised) {
                all += promised.daysLate(day);
            }
        }
        return all;
    }

    public int image() {
        imageKept = true;
        imageCoats = coatCount;
        imageRule = ruleNumber;
        wool.keepImage();
        for (Coat each : coats) {
            if (each != null) {
                each.keepImage();
            }
        }
        return doneCount();
    }

    public int back() {
        if (!imageKept) {
            return STATE;
        }
        useRule(imageRule);
        wool.layBack();
        // Coats that came since have nothing in the image and stay as they are.
        for (int i = 0; i < imageCoats; i++) {
            Coat each = coatAt(i);
            if (each != null) {
                each.layBack();
            }
        }
        return doneCount();
    }

    public int count(int what) {
        switch (what) {
            case 0: return wool.size;
            case 1: return coatCount;
            case 2: return doneCount();
            case 3: return textCount;
            case 4: return reader.tapeSize;
            case 5: return ruleNumber;
            case 6: return wool.ouncesInAll();
            case 7: return keptByInAll();
            case 8: return wool.hanksInBits();
            default: return BAD;
        }
    }

    // ---- the host

    public int sheet(int sheet, int sort, int n) {
        if (!isSheet(sheet) || !isWithin(sort, NO_SHEET, SORTS - 1)) {
            return BAD;
        }
        if (sort == NO_SHEET) {
            sheetSort[sheet] = NO_SHEET;
            return 1;
        }
        if (n > SHEET_SIZE) {
            return BAD;
        }
        if (n < 0) {
            return BELOW_ZERO;
        }
        sheetSort[sheet] = sort;
        sheetSize[sheet] = n;
        Arrays.fill(sheets[sheet], 0);
        return 1;
    }

    public int cell(int sheet, int i, int v) {
        if (!isSheet(sheet)) {
            return BAD;
        }
        if (sheetSort[sheet] == NO_SHEET) {
            return MISSING;
        }
        if (!isWithin(i, 0, sheetSize[sheet] - 1)) {
            return OUTSIDE;
        }
        sheets[sheet][i] = cutToSort(sheetSort[sheet], v);
        return 1;
    }

    public int copy(int sheet, int i, int other, int j, int n) {
        if (!isSheet(sheet) || !isSheet(other)) {
            return BAD;
        }
        if (sheetSort[sheet] == NO_SHEET || sheetSort[other] == NO_SHEET) {
            return MISSING;
        }
        if (sheetSort[sheet] != sheetSort[other]) {
            return OTHER_SORT;
        }
        if (!hasRun(sheet, i, n) || !hasRun(other, j, n)) {
            return OUTSIDE;
        }
        System.arraycopy(sheets[sheet], i, sheets[other], j, n);
        return n;
    }

    public int hanks(int sheet, int sort, int from, int n) {
        if (!isSheet(sheet) || !isWithin(sort, 0, SORTS - 1) || !isWithin(n, 0, MAX_ROWS)) {
            return BAD;
        }
        if (sheetSort[sheet] == NO_SHEET) {
            return MISSING;
        }
        if (sheetSort[sheet] != sort) {
            return OTHER_SORT;
        }
        int came = 0;
        for (int row = 0; row < n; row++) {
            // A start that lies outside is met in the first row, so the sum never wraps.
            int at = from + 3 * row;
            if (!hasRun(sheet, at, 3)) {
                return OUTSIDE;
            }
            int[] items = sheets[sheet];
            if (wool.addHank(items[at], items[at + 1], items[at + 2]) >= 0) {
                came++;
            }
        }
        return came;
    }

    public int taken(int coat, int k) {
        if (!isWithin(k, 0, KINDS - 1)) {
            return BAD;
        }
        Coat asked = coatAt(coat);
        if (asked == null) {
            return MISSING;
        }
        return isOfKind(asked, k) ? asked.worth : OTHER_SORT;
    }

    // ---- what the calls share

    private static boolean isWithin(int number, int least, int greatest) {
        return number >= least && number <= greatest;
    }

    private static boolean hasBit(int bits, int bit) {
        return (bits >> bit & 1) == 1;
    }

    private static int clamp(int number, int greatest) {
        return Math.max(0, Math.min(number, greatest));
    }

    /** The hank that a parting (0 .. 7775) names for a part. */
    private static int hankOf(int parting, int part) {
        return parting / DIGIT_WEIGHT[part] % MAX_HANKS;
    }

    private static Coat newCoat(int kind, int size, int rest) {
        int number = rest / 1000;
        int worth = rest % 1000;
        switch (kind) {
            case 1: return new Striped(kind, size, number, worth);
            case 2: return new Blend(kind, size, number, worth);
            case 3: return new Begun(kind, size, number, worth);
            case 4: return new Promised(kind, size, number, worth);
            case 5: return new Fine(kind, size, number, worth);
            default: return new Coat(kind, size, number, worth);
        }
    }

    private static boolean isOfKind(Coat coat, int kind) {
        switch (kind) {
            case 1: return coat instanceof Striped;
            case 2: return coat instanceof Blend;
            case 3: return coat instanceof Begun;
            case 4: return coat instanceof Promised;
            case 5: return coat instanceof Fine;
            default: return true;
        }
    }

    private Coat coatAt(int number) {
        return isWithin(number, 0, coatCount - 1) ? coats[number] : null;
    }

    private void useRule(int number) {
        Text wanted = isWithin(number, 0, textCount - 1) ? texts[number] : null;
        if (wanted != null) {
            rule = wanted;
            ruleNumber = number;
        }
    }

    /** The latest day on which a coat that is done was knitted; 0 if none is. */
    private int lastDay() {
        int last = 0;
        for (Coat each : coats) {
            if (each != null && each.done) {
                last = Math.max(last, each.day);
            }
        }
        return last;
    }

    private int doneCount() {
        int all = 0;
        for (Coat each : coats) {
            if (each != null && each.done) {
                all++;
            }
        }
        return all;
    }

    private int keptByInAll() {
        int all = 0;
        for (Coat each : coats) {
            if (each != null && each.done) {
                all += rule.keepBy(each);
            }
        }
        return all;
    }

    private static boolean isSheet(int sheet) {
        return isWithin(sheet, 0, SHEETS - 1);
    }

    private boolean hasRun(int sheet, int from, int n) {
        return from >= 0 && n >= 0 && from <= sheetSize[sheet] - n;
    }

    private static int cutToSort(int sort, int number) {
        switch (sort) {
            case 0: return (byte) number;
            case 1: return (short) number;
            default: return number;
        }
    }

    /** The hanks, and how much each vat has faded. */
    private static final class Wool {
        final int[] ounces = new int[MAX_HANKS];
        final int[] shade = new int[MAX_HANKS];
        final int[] vat = new int[MAX_HANKS];
        final int[] faded = new int[VATS];
        int size;

        private final int[] imageOunces = new int[MAX_HANKS];
        private final int[] imageFaded = new int[VATS];
        private int imageSize;

        boolean has(int number) {
            return isWithin(number, 0, size - 1);
        }

        int addHank(int itsOunces, int itsShade, int itsVat) {
            if (!isWithin(itsOunces, 0, MAX_OUNCES) || !isWithin(itsShade, 0, MAX_SHADE)
                    || !isWithin(itsVat, 0, VATS - 1)) {
                return BAD;
            }
            if (size >= MAX_HANKS) {
                return FULL;
            }
            ounces[size] = itsOunces;
            shade[size] = itsShade;
            vat[size] = itsVat;
            size++;
            return size - 1;
        }

        int fadedShade(int number) {
            return Math.max(shade[number] - faded[vat[number]], 0);
        }

        int ouncesInAll() {
            int all = 0;
            for (int i = 0; i < size; i++) {
                all += ounces[i];
            }
            return all;
        }

        int hanksInBits() {
            int bits = 0;
            for (int i = 0; i < size; i++) {
                if (isWithin(ounces[i], 1, 2)) {
                    bits |= 1 << i;
                }
            }
            return bits;
        }

        void keepImage() {
            imageSize = size;
            System.arraycopy(ounces, 0, imageOunces, 0, MAX_HANKS);
            System.arraycopy(faded, 0, imageFaded, 0, VATS);
        }

        /** Hanks that came since the image keep their ounces. */
        void layBack() {
            System.arraycopy(imageOunces, 0, ounces, 0, imageSize);
            System.arraycopy(imageFaded, 0, faded, 0, VATS);
        }
    }

    private static class Coat {
        final int kind;
        final int size;
        final int number;
        final int worth;

        boolean done;
        int parting;
        int day;

        private boolean imageDone;
        private int imageParting;
        private int imageDay;

        Coat(int kind, int size, int number, int worth) {
            this.kind = kind;
            this.size = size;
            this.number = number;
            this.worth = worth;
        }

        int takes(int part) {
            if (part < 2) {
                return size + 1;
            }
            return part < 4 ? 2 * size : 1;
        }

        int bears(int meeting) {
            if (meeting == 0) {
                return 0;
            }
            return meeting < 3 ? 2 : 4;
        }

        int brings() {
            return worth;
        }

        final int takesInAll() {
            int all = 0;
            for (int part = 0; part < PARTS; part++) {
                all += takes(part);
            }
            return all;
        }

        final void finish(int byParting, int onDay) {
            done = true;
            parting = byParting;
            day = onDay;
        }

        final void keepImage() {
            imageDone = done;
            imageParting = parting;
            imageDay = day;
        }

        final void layBack() {
            done = imageDone;
            parting = imageParting;
            day = imageDay;
        }
    }

    private static class Striped extends Coat {
        Striped(int kind, int size, int number, int worth) {
            super(kind, size, number, worth);
        }

        int bears(int meeting) {
            return super.bears(meeting) + number;
        }

        int brings() {
            return super.brings() - number;
        }
    }

    private static class Blend extends Coat {
        Blend(int kind, int size, int number, int worth) {
            super(kind, size, number, worth);
        }

        int bears(int meeting) {
            return super.bears(meeting) + 1;
        }
    }

    private static final class Begun extends Coat {
        Begun(int kind, int size, int number, int worth) {
            super(kind, size, number, worth);
        }

        int takes(int part) {
            return hasBit(number, part) ? 0 : super.takes(part);
        }
    }

    private static final class Promised extends Striped {
        Promised(int kind, int size, int number, int worth) {
            super(kind, size, number, worth);
        }

        int bears(int meeting) {
            return super.bears(meeting) / 2;
        }

        int brings() {
            return 2 * super.brings();
        }

        int daysLate(int today) {
            return Math.max((done ? day : today) - number, 0);
        }
    }

    private static final class Fine extends Blend {
        Fine(int kind, int size, int number, int worth) {
            super(kind, size, number, worth);
        }

        int takes(int part) {
            return super.takes(part) + 1;
        }

        int bears(int meeting) {
            return Math.max(super.bears(meeting) - 1, 0);
        }

        int brings() {
            return super.brings() + number;
        }
    }

    /** A text that was read: its three values as codes, operands ahead of their operator. */
    private static final class Text {
        private static final int BEAR = 0;
        private static final int SEEN = 1;
        private static final int KEEP = 2;

        private final int[] code;
        private final int[] ends;
        private final int[] stack;
        private final int[] names = new int[Reader.NAMES];

        /** ends: behind which code each of the three values ends. */
        Text(int[] code, int[] ends) {
            this.code = code;
            this.ends = ends;
            this.stack = new int[code.length];
        }

        /** bear 0 ; seen apart ; keep size ; */
        static Text firstRule() {
            return new Text(new int[] {0, -2, -3}, new int[] {1, 2, 3});
        }

        int seenApart(Wool wool, int[] ounces, int one, int other) {
            int both = ounces[one] + ounces[other];
            int apart = Math.abs(wool.fadedShade(one) - wool.fadedShade(other));
            int unlike = wool.vat[one] == wool.vat[other] ? 0 : 1;
            nameNumbers(both, apart, 0, 0, unlike, wool.vat[Math.min(one, other)]);
            return clamp(valueOf(SEEN), MAX_SEEN);
        }

        /** What a meeting bears by its coat, and by this text besides. */
        int bearsInAll(Coat coat, int meeting) {
            int both = coat.takes(LOWER_PART[meeting]) + coat.takes(HIGHER_PART[meeting]);
            int bears = coat.bears(meeting);
            nameNumbers(both, bears, coat.size, coat.number, 0, meeting);
            return bears + clamp(valueOf(BEAR), MAX_BEAR);
        }

        int keepBy(Coat coat) {
            nameNumbers(coat.takesInAll(), 0, coat.size, coat.number, 0, 0);
            return clamp(valueOf(KEEP), MAX_KEEP);
        }

        private void nameNumbers(int ounces, int apart, int size, int worn, int faded, int vat) {
            names[0] = ounces;
            names[1] = apart;
            names[2] = size;
            names[3] = worn;
            names[4] = faded;
            names[5] = vat;
        }

        private int valueOf(int which) {
            int top = 0;
            for (int at = which == 0 ? 0 : ends[which - 1]; at < ends[which]; at++) {
                int step = code[at];
                if (step >= -Reader.NAMES && top < stack.length) {
                    stack[top] = step >= 0 ? step : names[-1 - step];
                    top++;
                } else if (step >= Reader.LAST_OF_ONE && top >= 1) {
                    stack[top - 1] = ofOne(step, stack[top - 1]);
                } else if (top >= 2) {
                    top--;
                    stack[top - 1] = ofTwo(step, stack[top - 1], stack[top]);
                }
            }
            return top >= 1 ? stack[top - 1] : 0;
        }

        private static int ofOne(int step, int value) {
            if (step == Reader.NEGATE) {
                return -value;
            }
            return value == 0 ? 1 : 0;
        }

        private static int ofTwo(int step, int one, int other) {
            switch (step) {
                case Reader.TIMES: return one * other;
                case Reader.PLUS: return one + other;
                case Reader.MINUS: return one - other;
                case Reader.LESS: return one < other ? 1 : 0;
                case Reader.SAME: return one == other ? 1 : 0;
                case Reader.BOTH: return one != 0 && other != 0 ? 1 : 0;
                default: return one != 0 || other != 0 ? 1 : 0;
            }
        }
    }

    /** Reads the tape as a text, token by token, one method for each rule of its grammar. */
    private static final class Reader {
        static final int NAMES = 6;

        // Codes: numbers are themselves, names -1 .. -6, operators from -10 down.
        static final int NEGATE = -10;
        static final int DENY = -11;
        static final int LAST_OF_ONE = -11;
        static final int TIMES = -12;
        static final int PLUS = -13;
        static final int MINUS = -14;
        static final int LESS = -15;
        static final int SAME = -16;
        static final int BOTH = -17;
        static final int EITHER = -18;

        // Tokens: a sign is its own byte, words are numbered from WORD on as in WORDS.
        private static final int END = 0;
        private static final int BROKEN = 1;
        private static final int NUMBER = 2;
        private static final int WORD = 256;
        private static final int KEY_BEAR = WORD + 6;
        private static final int KEY_OR = WORD + 9;
        private static final int KEY_AND = WORD + 10;
        private static final int KEY_NOT = WORD + 11;
        private static final String WORDS = "ounces apart size worn faded vat bear seen keep or and not ";
        private static final String SIGNS = "();+-*<=";
        private static final int MAX_DIGITS = 4;
        private static final int MAX_OPEN = 5;

        /** Where the text that was read last can't go on; NONE if it was sound. */
        int fault;

        int tapeSize;

        private final byte[] tape = new byte[TAPE_SIZE];
        private int token;
        private int tokenStart;
        private int tokenEnd;
        private int number;
        private int open;
        private final int[] code = new int[TAPE_SIZE];
        private int codeSize;

        void addByte(byte added) {
            if (tapeSize < TAPE_SIZE) {
                tape[tapeSize] = added;
                tapeSize++;
            }
        }

        /** The text on the tape, which is empty then; null by a fault. */
        Text readTape() {
            fault = NONE;
            tokenEnd = 0;
            open = 0;
            codeSize = 0;
            step();
            int[] ends = new int[3];
            for (int i = 0; i < ends.length; i++) {
                // The keys bear, seen, keep stand in WORDS in just this order.
                need(KEY_BEAR + i);
                readE();
                need(';');
                ends[i] = codeSize;
            }
            if (token != END) {
                fail();
            }
            tapeSize = 0;
            return fault == NONE ? new Text(Arrays.copyOf(code, codeSize), ends) : null;
        }

        private void readE() {
            readAnd();
            for (int i = 0; i < TAPE_SIZE && accept(KEY_OR); i++) {
                readAnd();
                emit(EITHER);
            }
        }

        private void readAnd() {
            readNot();
            for (int i = 0; i < TAPE_SIZE && accept(KEY_AND); i++) {
                readNot();
                emit(BOTH);
            }
        }

        private void readNot() {
            if (token == KEY_NOT) {
                if (opened()) {
                    readNot();
                    open--;
                    emit(DENY);
                }
                return;
            }
            readSum();
            if (accept('<')) {
                readSum();
                emit(LESS);
            } else if (accept('=')) {
                readSum();
                emit(SAME);
            }
        }

        private void readSum() {
            readTerm();
            for (int i = 0; i < TAPE_SIZE && (token == '+' || token == '-'); i++) {
                int operator = token == '+' ? PLUS : MINUS;
                step();
                readTerm();
                emit(operator);
            }
        }

        private void readTerm() {
            readOne();
            for (int i = 0; i < TAPE_SIZE && accept('*'); i++) {
                readOne();
                emit(TIMES);
            }
        }

        private void readOne() {
            if (token == NUMBER) {
                emit(number);
                step();
            } else if (isWithin(token, WORD, WORD + NAMES - 1)) {
                emit(-1 - (token - WORD));
                step();
            } else if (token == '-') {
                if (opened()) {
                    readOne();
                    open--;
                    emit(NEGATE);
                }
            } else if (token == '(') {
                if (opened()) {
                    readE();
                    need(')');
                    open--;
                }
            } else {
                fail();
            }
        }

        /** Goes past a token that stays open, if there is room for one more. */
        private boolean opened() {
            if (open >= MAX_OPEN) {
                fail();
                return false;
            }
            open++;
            step();
            return true;
        }

        private boolean accept(int wanted) {
            if (token != wanted) {
                return false;
            }
            step();
            return true;
        }

        private void need(int wanted) {
            if (!accept(wanted)) {
                fail();
            }
        }

        /** The first fault counts; a broken token fits nowhere, so all readers end. */
        private void fail() {
            if (fault == NONE) {
                fault = tokenStart;
            }
            token = BROKEN;
        }

        private void emit(int step) {
            if (codeSize < code.length) {
                code[codeSize] = step;
                codeSize++;
            }
        }

        /** Goes on to the next token. */
        private void step() {
            tokenStart = tokenEnd;
            while (tokenStart < tapeSize && isBlank(tape[tokenStart])) {
                tokenStart++;
            }
            tokenEnd = tokenStart + 1;
            if (tokenStart >= tapeSize) {
                token = END;
                tokenEnd = tapeSize;
            } else if (isDigit(tape[tokenStart])) {
                takeNumber();
            } else if (isLetter(tape[tokenStart])) {
                takeWord();
            } else {
                int sign = tape[tokenStart] & 255;
                token = SIGNS.indexOf((char) sign) >= 0 ? sign : BROKEN;
            }
        }

        private void takeNumber() {
            while (tokenEnd < tapeSize && isDigit(tape[tokenEnd])) {
                tokenEnd++;
            }
            number = 0;
            for (int i = tokenStart; i < tokenEnd; i++) {
                number = number * 10 + tape[i] - '0';
            }
            token = tokenEnd - tokenStart <= MAX_DIGITS ? NUMBER : BROKEN;
        }

        private void takeWord() {
            while (tokenEnd < tapeSize && isLetter(tape[tokenEnd])) {
                tokenEnd++;
            }
            token = BROKEN;
            int word = WORD;
            int start = 0;
            for (int i = 0; i < WORDS.length(); i++) {
                if (WORDS.charAt(i) == ' ') {
                    if (isSpelled(start, i)) {
                        token = word;
                    }
                    word++;
                    start = i + 1;
                }
            }
        }

        /** Whether the token's letters are those of WORDS from start to end. */
        private boolean isSpelled(int start, int end) {
            if (tokenEnd - tokenStart != end - start) {
                return false;
            }
            for (int i = start; i < end; i++) {
                if (WORDS.charAt(i) != tape[tokenStart + i - start]) {
                    return false;
                }
            }
            return true;
        }

        private static boolean isBlank(int sign) {
            return sign == 32 || sign == 10;
        }

        private static boolean isDigit(int sign) {
            return sign >= '0' && sign <= '9';
        }

        private static boolean isLetter(int sign) {
            return sign >= 'a' && sign <= 'z';
        }
    }

    /** Judges and finds partings of one coat that is laid out with the ounces there are. */
    private static final class Cutter {
        int best;
        int bestBits;
        int ways;

        private int hankCount;
        private final int[] have = new int[MAX_HANKS];
        private final int[] used = new int[MAX_HANKS];
        private final int[] apart = new int[MAX_HANKS * MAX_HANKS];
        private final int[] takes = new int[PARTS];
        private final int[] bears = new int[MEETINGS];
        private final int[] picked = new int[PARTS];
        private boolean countsAll;
        private boolean settled;

        void layOut(Coat coat, Text rule, Wool wool, int[] ounces) {
            hankCount = wool.size;
            for (int part = 0; part < PARTS; part++) {
                takes[part] = coat.takes(part);
            }
            for (int meeting = 0; meeting < MEETINGS; meeting++) {
                bears[meeting] = rule.bearsInAll(coat, meeting);
            }
            for (int a = 0; a < hankCount; a++) {
                have[a] = ounces[a];
                for (int b = a + 1; b < hankCount; b++) {
                    int seen = rule.seenApart(wool, ounces, a, b);
                    apart[a * MAX_HANKS + b] = seen;
                    apart[b * MAX_HANKS + a] = seen;
                }
            }
        }

        boolean fitTogether(int meeting, int one, int other) {
            return one == other || apart[one * MAX_HANKS + other] <= bears[meeting];
        }

        int firstWrong(int parting) {
            Arrays.fill(used, 0);
            for (int part = 0; part < PARTS; part++) {
                picked[part] = hankOf(parting, part);
                if (picked[part] >= hankCount) {
                    return 10 + part;
                }
                used[picked[part]] += takes[part];
            }
            for (int hank = 0; hank < hankCount; hank++) {
                if (used[hank] > have[hank]) {
                    return 20 + hank;
                }
            }
            for (int meeting = 0; meeting < MEETINGS; meeting++) {
                if (!fitTogether(meeting, picked[LOWER_PART[meeting]], picked[HIGHER_PART[meeting]])) {
                    return 40 + meeting;
                }
            }
            return NONE;
        }

        /** Takes what the parts take by a parting that isn't wrong. */
        void takeAway(int parting, int[] ounces) {
            for (int part = 0; part < PARTS; part++) {
                ounces[hankOf(parting, part)] -= takes[part];
            }
        }

        /** Looks for the best parting; ways is right only if all of them are counted. */
        void findBest(boolean countAll) {
            best = NONE;
            bestBits = NONE;
            ways = 0;
            countsAll = countAll;
            settled = false;
            Arrays.fill(used, 0);
            pickFrom(0, 0);
        }

        private void pickFrom(int part, int parting) {
            if (part >= PARTS) {
                weigh(parting);
                return;
            }
            for (int hank = 0; hank < hankCount && !settled; hank++) {
                if (used[hank] + takes[part] <= have[hank] && fitsBelow(part, hank)) {
                    picked[part] = hank;
                    used[hank] += takes[part];
                    pickFrom(part + 1, parting * MAX_HANKS + hank);
                    used[hank] -= takes[part];
                }
            }
        }

        private boolean fitsBelow(int part, int hank) {
            for (int meeting = 0; meeting < MEETINGS; meeting++) {
                if (HIGHER_PART[meeting] == part && !fitTogether(meeting, picked[LOWER_PART[meeting]], hank)) {
                    return false;
                }
            }
            return true;
        }

        private void weigh(int parting) {
            int bits = 0;
            for (int hank = 0; hank < hankCount; hank++) {
                int left = have[hank] - used[hank];
                if (used[hank] > 0 && left <= 2) {
                    bits += left;
                }
            }
            ways++;
            if (best == NONE || bits < bestBits) {
                best = parting;
                bestBits = bits;
            }
            // Partings come in the order of their digits, so none behind one without bits is better.
            settled = bestBits == 0 && !countsAll;
        }
    }

    /** Finds the order of the first coats that brings most. */
    private static final class Planner {
        int bestValue;
        int bestOrder;

        private int bestLength;
        private final Cutter cutter = new Cutter();
        private final Coat[] open = new Coat[PLANNED];
        private final int[][] ounces = new int[PLANNED + 1][MAX_HANKS];

        /** With n ounces more of one hank; hank NONE: with what is there. */
        void plan(Coat[] coats, Text rule, Wool wool, int hank, int n) {
            keepOpen(coats);
            bestValue = 0;
            bestOrder = 0;
            bestLength = 0;
            System.arraycopy(wool.ounces, 0, ounces[0], 0, MAX_HANKS);
            if (wool.has(hank)) {
                ounces[0][hank] += n;
            }
            goOn(rule, wool, 0, 0, 0, 0);
        }

        int bound(Coat[] coats, int ouncesInAll) {
            keepOpen(coats);
            int all = 0;
            for (Coat coat : open) {
                if (coat != null && coat.brings() > 0 && coat.takesInAll() <= ouncesInAll) {
                    all += coat.brings();
                }
            }
            return all;
        }

        /** Of the first coats those that aren't done; null for the others. */
        private void keepOpen(Coat[] coats) {
            for (int i = 0; i < PLANNED; i++) {
                Coat coat = i < coats.length ? coats[i] : null;
                open[i] = coat != null && !coat.done ? coat : null;
            }
        }

        /**
         * Weighs an order of so many coats (bits: which) and all that begin with it. Coats that bring
         * nothing are tried too: two hanks that have fewer ounces then may be seen less far apart.
         */
        private void goOn(Text rule, Wool wool, int length, int bits, int order, int value) {
            if (isBetter(length, order, value)) {
                bestValue = value;
                bestOrder = order;
                bestLength = length;
            }
            if (length >= PLANNED) {
                return;
            }
            for (int i = 0; i < PLANNED; i++) {
                Coat coat = open[i];
                if (coat == null || hasBit(bits, i)) {
                    continue;
                }
                cutter.layOut(coat, rule, wool, ounces[length]);
                cutter.findBest(false);
                if (cutter.best != NONE) {
                    System.arraycopy(ounces[length], 0, ounces[length + 1], 0, MAX_HANKS);
                    cutter.takeAway(cutter.best, ounces[length + 1]);
                    goOn(rule, wool, length + 1, bits | 1 << i, order * 10 + i + 1, value + coat.brings());
                }
            }
        }

        private boolean isBetter(int length, int order, int value) {
            if (value != bestValue) {
                return value > bestValue;
            }
            return length < bestLength || length == bestLength && order < bestOrder;
        }
    }
}
