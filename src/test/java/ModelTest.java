import java.util.ArrayList;
import java.util.List;
import java.util.Random;
import java.util.regex.Matcher;
import java.util.regex.Pattern;

/**
 * Runs of calls drawn from a fixed seed, each answered by the class and by a plain model of the
 * document that tries all partings and orders and reads texts anew each time they are asked.
 */
public final class ModelTest {
    private static final int RUNS = 200;
    private static final int STEPS = 160;
    /** Behind its 512th call an object answers freely, and the longest step has some 40. */
    private static final int CALLS = 470;

    /** A text is read straight from its bytes: a value, or the place of its fault. */
    private static final class Plain {
        static final Pattern TOKEN = Pattern.compile("[a-z]+|[0-9]+|[();+*<=-]");
        final String text;
        final int[] names;
        int at;
        int open;
        int fault = -1;
        final int[] values = new int[3];

        Plain(String text, int[] names) {
            this.text = text;
            this.names = names;
            String[] keys = {"bear", "seen", "keep"};
            for (int i = 0; i < 3; i++) {
                want(keys[i]);
                values[i] = either();
                want(";");
            }
            if (!peek().isEmpty()) {
                fail();
            }
        }

        private void fail() {
            if (fault < 0) {
                peek();
                fault = at;
            }
        }

        /** The next token; empty at the end; "?" if there is none such or a fault was met. */
        private String peek() {
            if (fault >= 0) {
                return "?";
            }
            while (at < text.length() && " \n".indexOf(text.charAt(at)) >= 0) {
                at++;
            }
            String rest = text.substring(at);
            if (rest.isEmpty()) {
                return "";
            }
            Matcher m = TOKEN.matcher(rest);
            return m.lookingAt() ? m.group() : "?";
        }

        private boolean go(String token) {
            if (fault < 0 && peek().equals(token)) {
                at += token.length();
                return true;
            }
            return false;
        }

        private void want(String token) {
            if (!go(token)) {
                fail();
            }
        }

        private boolean openOne(String token) {
            if (fault >= 0 || !peek().equals(token)) {
                return false;
            }
            if (open == 5) {
                fail();
                return false;
            }
            open++;
            at += token.length();
            return true;
        }

        private int either() {
            int value = both();
            while (go("or")) {
                int other = both();
                value = value != 0 || other != 0 ? 1 : 0;
            }
            return value;
        }

        private int both() {
            int value = not();
            while (go("and")) {
                int other = not();
                value = value != 0 && other != 0 ? 1 : 0;
            }
            return value;
        }

        private int not() {
            if (openOne("not")) {
                int value = not();
                open--;
                return value == 0 ? 1 : 0;
            }
            int value = sum();
            if (go("<")) {
                return value < sum() ? 1 : 0;
            }
            if (go("=")) {
                return value == sum() ? 1 : 0;
            }
            return value;
        }

        private int sum() {
            int value = term();
            while (true) {
                if (go("+")) {
                    value += term();
                } else if (go("-")) {
                    value -= term();
                } else {
                    return value;
                }
            }
        }

        private int term() {
            int value = one();
            while (go("*")) {
                value *= one();
            }
            return value;
        }

        private int one() {
            if (openOne("-")) {
                int value = one();
                open--;
                return -value;
            }
            if (openOne("(")) {
                int value = either();
                want(")");
                open--;
                return value;
            }
            String token = peek();
            int name = List.of("ounces", "apart", "size", "worn", "faded", "vat").indexOf(token);
            if (name >= 0) {
                at += token.length();
                return names[name];
            }
            if (token.matches("[0-9]{1,4}")) {
                at += token.length();
                return Integer.parseInt(token);
            }
            fail();
            return 0;
        }
    }

    private static final class Model {
        static final int[][] MEET = {{0, 1}, {0, 2}, {1, 2}, {2, 3}, {2, 4}, {3, 4}};
        final List<int[]> hanks = new ArrayList<>();
        final int[] faded = new int[9];
        /** kind, size, number, worth, done, parting, day. */
        final List<int[]> coats = new ArrayList<>();
        final List<String> texts = new ArrayList<>(List.of("bear 0 ; seen apart ; keep size ;"));
        int rule;
        String tape = "";
        int[] imageOunces;
        int[] imageFaded;
        List<int[]> imageCoats;
        int imageRule;

        int[] ounces() {
            return hanks.stream().mapToInt(h -> h[0]).toArray();
        }

        boolean noHank(int h) {
            return h < 0 || h >= hanks.size();
        }

        boolean noCoat(int c) {
            return c < 0 || c >= coats.size();
        }

        int shade(int h) {
            return Math.max(0, hanks.get(h)[1] - faded[hanks.get(h)[2]]);
        }

        int takes(int[] coat, int part) {
            int plain = part <= 1 ? coat[1] + 1 : part <= 3 ? coat[1] * 2 : 1;
            if (coat[0] == 3 && (coat[2] & 1 << part) != 0) {
                return 0;
            }
            return coat[0] == 5 ? plain + 1 : plain;
        }

        int takes(int[] coat) {
            int all = 0;
            for (int part = 0; part < 5; part++) {
                all += takes(coat, part);
            }
            return all;
        }

        int bears(int[] coat, int meeting) {
            int plain = meeting == 0 ? 0 : meeting <= 2 ? 2 : 4;
            switch (coat[0]) {
                case 1: return plain + coat[2];
                case 2: return plain + 1;
                case 4: return (plain + coat[2]) / 2;
                default: return plain;
            }
        }

        int brings(int[] coat) {
            switch (coat[0]) {
                case 1: return coat[3] - coat[2];
                case 4: return 2 * (coat[3] - coat[2]);
                case 5: return coat[3] + coat[2];
                default: return coat[3];
            }
        }

        int value(int which, int greatest, int... names) {
            int value = new Plain(texts.get(rule), names).values[which];
            return value < 0 ? 0 : value > greatest ? greatest : value;
        }

        int seen(int[] ounces, int a, int b) {
            return value(1, 999, ounces[a] + ounces[b], Math.abs(shade(a) - shade(b)), 0, 0,
                    hanks.get(a)[2] != hanks.get(b)[2] ? 1 : 0, hanks.get(Math.min(a, b))[2]);
        }

        int bear(int[] coat, int m) {
            return bears(coat, m) + value(0, 99, takes(coat, MEET[m][0]) + takes(coat, MEET[m][1]), bears(coat, m),
                    coat[1], coat[2], 0, m);
        }

        int keep(int[] coat) {
            return value(2, 99, takes(coat), 0, coat[1], coat[2], 0, 0);
        }

        /** What two hanks are seen apart and meetings bear, read once for many partings. */
        int[][] table(int[] coat, int[] ounces) {
            int[][] table = new int[7][7];
            for (int a = 0; a < hanks.size(); a++) {
                for (int b = 0; b < hanks.size(); b++) {
                    table[a][b] = a == b ? -1 : seen(ounces, a, b);
                }
            }
            for (int m = 0; m < 6; m++) {
                table[6][m] = bear(coat, m);
            }
            return table;
        }

        int judge(int[] coat, int[] ounces, int parting, int[][] table) {
            int[] h = {parting / 1296, parting / 216 % 6, parting / 36 % 6, parting / 6 % 6, parting % 6};
            for (int part = 0; part < 5; part++) {
                if (noHank(h[part])) {
                    return 10 + part;
                }
            }
            for (int hank = 0; hank < hanks.size(); hank++) {
                if (used(coat, parting, hank) > ounces[hank]) {
                    return 20 + hank;
                }
            }
            for (int m = 0; m < 6; m++) {
                if (table[h[MEET[m][0]]][h[MEET[m][1]]] > table[6][m]) {
                    return 40 + m;
                }
            }
            return -1;
        }

        int used(int[] coat, int parting, int hank) {
            int all = 0;
            for (int part = 4; part >= 0; part--) {
                if (parting % 6 == hank) {
                    all += takes(coat, part);
                }
                parting /= 6;
            }
            return all;
        }

        /** parting, bits, how many. */
        int[] can(int[] coat, int[] ounces) {
            int[] best = {-1, -1, 0};
            int[][] table = table(coat, ounces);
            for (int parting = 0; parting < 7776; parting++) {
                if (judge(coat, ounces, parting, table) == -1) {
                    int bits = 0;
                    for (int hank = 0; hank < hanks.size(); hank++) {
                        int used = used(coat, parting, hank);
                        int left = ounces[hank] - used;
                        if (used > 0 && (left == 1 || left == 2)) {
                            bits += left;
                        }
                    }
                    best[2]++;
                    if (best[0] == -1 || bits < best[1]) {
                        best[0] = parting;
                        best[1] = bits;
                    }
                }
            }
            return best;
        }

        /** brings, order. */
        int[] most(int[] start) {
            int[] best = {0, 0};
            int[] orders = {1, 2, 3, 12, 13, 21, 23, 31, 32, 123, 132, 213, 231, 312, 321};
            for (int order : orders) {
                int brings = 0;
                int[] ounces = start.clone();
                boolean may = true;
                for (char digit : String.valueOf(order).toCharArray()) {
                    int c = digit - '1';
                    if (!may || noCoat(c) || coats.get(c)[4] == 1) {
                        may = false;
                        break;
                    }
                    int[] coat = coats.get(c);
                    int[] can = can(coat, ounces);
                    may = can[0] >= 0;
                    for (int hank = 0; may && hank < hanks.size(); hank++) {
                        ounces[hank] -= used(coat, can[0], hank);
                    }
                    brings += brings(coat);
                }
                if (may && brings > best[0]) {
                    best = new int[] {brings, order};
                }
            }
            return best;
        }

        int done() {
            return (int) coats.stream().filter(c -> c[4] == 1).count();
        }
    }

    private final Random random = new Random(20261118);
    private final StringBuilder told = new StringBuilder();
    private int wrong;
    private int calls;
    private SleeveDarker x;
    private Model m;

    private int any(int least, int greatest) {
        return greatest < least ? least : least + random.nextInt(greatest - least + 1);
    }

    /** Mostly within, now and then one outside on either side. */
    private int near(int least, int greatest) {
        return random.nextInt(30) == 0 ? (random.nextBoolean() ? least - 1 : greatest + 1) : any(least, greatest);
    }

    private void due(String call, int got, int want) {
        calls++;
        told.append(call).append(" = ").append(want).append('\n');
        if (got != want) {
            wrong++;
            System.out.println(told);
            System.out.println(call + " answered " + got + ", due is " + want);
        }
    }

    private static boolean in(int n, int least, int greatest) {
        return n >= least && n <= greatest;
    }

    private String expression(int depth) {
        String[] names = {"ounces", "apart", "size", "worn", "faded", "vat"};
        switch (any(0, depth > 3 ? 1 : 9)) {
            case 0: return String.valueOf(any(0, random.nextInt(9) == 0 ? 9999 : 12));
            case 1: case 2: return names[any(0, 5)];
            case 3: return "-" + expression(depth + 1);
            case 4: return "(" + expression(depth + 1) + ")";
            case 5: return "not " + expression(depth + 1);
            default:
                String[] operators = {"+", "-", "*", "<", "=", " and ", " or ", " + ", "*"};
                return expression(depth + 1) + operators[any(0, 8)] + expression(depth + 1);
        }
    }

    private String someText() {
        String[] usual = {"bear 0;seen apart;keep size;", "bear vat*2;seen apart+faded;keep ounces-worn;",
            "bear size+1;seen apart*(30<ounces);keep size*worn;", "bear apart;seen apart-ounces;keep ounces;"};
        String text = random.nextInt(3) == 0 ? usual[any(0, 3)]
                : "bear " + expression(0) + ";seen " + expression(0) + " ;keep\n" + expression(0) + ";";
        if (random.nextInt(6) == 0 && !text.isEmpty()) {
            int at = any(0, text.length() - 1);
            String put = "()+-*<=;? \n0a".substring(any(0, 12)).substring(0, 1);
            text = text.substring(0, at) + put + text.substring(random.nextBoolean() ? at : at + 1);
        }
        return text;
    }

    private void feedAndRead() {
        String text = someText();
        for (int at = 0; at < text.length(); ) {
            int n = Math.min(any(1, 8), text.length() - at);
            long bytes = n == 8 ? 0 : random.nextLong() << 8 * n;
            for (int i = 0; i < n; i++) {
                bytes |= (long) text.charAt(at + i) << 8 * i;
            }
            boolean full = m.tape.length() + n > 160;
            if (!full) {
                m.tape += text.substring(at, at + n);
            }
            due("feed(" + n + ", " + bytes + ")", x.feed(n, bytes), full ? -4 : m.tape.length());
            at += n;
        }
        int want = -4;
        if (m.texts.size() < 6) {
            Plain read = new Plain(m.tape, new int[6]);
            if (read.fault < 0) {
                m.texts.add(m.tape);
                want = m.texts.size() - 1;
            } else {
                want = -100 - read.fault;
            }
            m.tape = "";
        }
        due("text() of " + text, x.text(), want);
        int rule = near(0, m.texts.size() - 1);
        boolean bad = rule < 0 || rule >= m.texts.size();
        due("force(" + rule + ")", x.force(rule), bad ? -2 : m.rule);
        m.rule = bad ? m.rule : rule;
    }

    private void setUp() {
        int shade = any(0, 90);
        for (int i = any(1, 6); i > 0; i--) {
            makeHank(shade);
        }
        for (int i = any(1, 4); i > 0; i--) {
            makeCoat();
        }
    }

    private void makeHank(int shade) {
        int ounces = near(0, random.nextInt(3) == 0 ? 99 : 25);
        int itsShade = shade + any(0, 9);
        int vat = near(0, 8);
        int want = -2;
        if (in(ounces, 0, 99) && in(itsShade, 0, 99) && in(vat, 0, 8)) {
            want = m.hanks.size() < 6 ? m.hanks.size() : -4;
        }
        if (want >= 0) {
            m.hanks.add(new int[] {ounces, itsShade, vat});
        }
        due("hank(" + ounces + ", " + itsShade + ", " + vat + ")", x.hank(ounces, itsShade, vat), want);
    }

    private void makeCoat() {
        int kind = near(0, 5);
        int size = near(1, random.nextBoolean() ? 9 : 3);
        int rest = 1000 * near(0, 20) + any(0, random.nextBoolean() ? 999 : 15);
        int want = -2;
        if (in(kind, 0, 5) && in(size, 1, 9) && in(rest, 0, 20999)) {
            want = m.coats.size() < 8 ? m.coats.size() : -4;
        }
        if (want >= 0) {
            m.coats.add(new int[] {kind, size, rest / 1000, rest % 1000, 0, 0, 0});
        }
        due("coat(" + kind + ", " + size + ", " + rest + ")", x.coat(kind, size, rest), want);
    }

    private void knit() {
        int c = near(0, m.coats.size() - 1);
        int day = any(0, 3) == 0 ? near(0, 99) : any(0, 9);
        int parting = near(0, 7775);
        if (!m.noCoat(c) && random.nextInt(4) > 0) {
            parting = Math.max(0, m.can(m.coats.get(c), m.ounces())[0]);
        }
        int want = -2;
        if (!m.noCoat(c) && in(parting, 0, 7775) && in(day, 0, 99)
                && m.coats.stream().allMatch(k -> k[4] == 0 || k[6] <= day)) {
            int[] coat = m.coats.get(c);
            want = coat[4] == 1 ? -3 : m.judge(coat, m.ounces(), parting, m.table(coat, m.ounces()));
            if (want == -1) {
                for (int hank = 0; hank < m.hanks.size(); hank++) {
                    m.hanks.get(hank)[0] -= m.used(coat, parting, hank);
                }
                coat[4] = 1;
                coat[5] = parting;
                coat[6] = day;
            }
        }
        due("knit(" + c + ", " + parting + ", " + day + ")", x.knit(c, parting, day), want);
    }

    private void undo() {
        int c = near(0, m.coats.size() - 1);
        int want = m.noCoat(c) ? -2 : m.coats.get(c)[4] == 0 ? -3 : 0;
        if (want == 0) {
            int[] coat = m.coats.get(c);
            int parting = coat[5];
            for (int part = 4; part >= 0; part--) {
                int comes = Math.max(0, m.takes(coat, part) - 1);
                m.hanks.get(parting % 6)[0] += comes;
                want += comes;
                parting /= 6;
            }
            coat[4] = 0;
        }
        due("undo(" + c + ")", x.undo(c), want);
    }

    private void judge() {
        int c = near(0, m.coats.size() - 1);
        int parting = 0;
        for (int part = 0; part < 5; part++) {
            parting = parting * 6 + (random.nextInt(20) == 0 ? any(0, 5) : any(0, Math.max(0, m.hanks.size() - 1)));
        }
        parting = random.nextInt(30) == 0 ? near(0, 7775) : parting;
        boolean bad = m.noCoat(c) || !in(parting, 0, 7775);
        int want = bad ? -2
                : m.judge(m.coats.get(c), m.ounces(), parting, m.table(m.coats.get(c), m.ounces()));
        due("judge(" + c + ", " + parting + ")", x.judge(c, parting), want);
    }

    private void can() {
        int c = near(0, m.coats.size() - 1);
        int what = near(0, 2);
        int want = m.noCoat(c) || !in(what, 0, 2) ? -2 : m.can(m.coats.get(c), m.ounces())[what];
        due("can(" + c + ", " + what + ")", x.can(c, what), want);
    }

    private void most() {
        int what = near(0, 2);
        int want = -2;
        if (in(what, 0, 1)) {
            want = m.most(m.ounces())[what];
        } else if (what == 2) {
            want = 0;
            for (int c = 0; c < Math.min(3, m.coats.size()); c++) {
                int[] coat = m.coats.get(c);
                int all = m.hanks.stream().mapToInt(h -> h[0]).sum();
                want += coat[4] == 0 && m.takes(coat) <= all ? Math.max(0, m.brings(coat)) : 0;
            }
        }
        due("most(" + what + ")", x.most(what), want);
    }

    private void more() {
        int n = near(1, random.nextBoolean() ? 50 : 9);
        int want = -2;
        if (in(n, 1, 50)) {
            int best = m.most(m.ounces())[0];
            want = -1;
            for (int hank = 0; hank < m.hanks.size(); hank++) {
                int[] ounces = m.ounces();
                ounces[hank] += n;
                int brings = m.most(ounces)[0];
                if (brings > best) {
                    best = brings;
                    want = hank;
                }
            }
        }
        due("more(" + n + ")", x.more(n), want);
    }

    private void imageOrBack() {
        if (random.nextInt(3) == 0) {
            m.imageOunces = m.ounces();
            m.imageFaded = m.faded.clone();
            m.imageRule = m.rule;
            m.imageCoats = new ArrayList<>();
            m.coats.forEach(c -> m.imageCoats.add(c.clone()));
            due("image()", x.image(), m.done());
            return;
        }
        int want = -3;
        if (m.imageCoats != null) {
            for (int hank = 0; hank < m.imageOunces.length; hank++) {
                m.hanks.get(hank)[0] = m.imageOunces[hank];
            }
            System.arraycopy(m.imageFaded, 0, m.faded, 0, 9);
            for (int c = 0; c < m.imageCoats.size(); c++) {
                m.coats.set(c, m.imageCoats.get(c).clone());
            }
            m.rule = m.imageRule;
            want = m.done();
        }
        due("back()", x.back(), want);
    }

    private void changeHanks() {
        if (random.nextBoolean()) {
            int hank = near(0, m.hanks.size() - 1);
            int n = near(0, random.nextBoolean() ? 99 : 20);
            boolean bad = m.noHank(hank) || !in(n, 0, 99);
            due("ounces(" + hank + ", " + n + ")", x.ounces(hank, n), bad ? -2 : m.hanks.get(hank)[0]);
            if (!bad) {
                m.hanks.get(hank)[0] = n;
            }
        } else {
            int vat = near(0, 8);
            int n = near(0, random.nextBoolean() ? 50 : 4);
            boolean bad = !in(vat, 0, 8) || !in(n, 0, 50);
            due("fade(" + vat + ", " + n + ")", x.fade(vat, n), bad ? -2 : m.faded[vat]);
            if (!bad) {
                m.faded[vat] = n;
            }
        }
    }

    private void tellCoat() {
        int c = near(0, m.coats.size() - 1);
        int what = new int[] {0, 1, 2, 3, 4, 5, 6, 7, 9, 10, 11, 12, 13, 14, 15, 19, 20, 21, 22, 23, 24, 25, 26}[any(0, 22)];
        int want = -5;
        if (!m.noCoat(c)) {
            int[] coat = m.coats.get(c);
            int[] first = {coat[0], coat[1], coat[2], m.brings(coat), m.takes(coat), m.keep(coat), coat[4]};
            want = what < 7 ? first[what] : in(what, 10, 14) ? m.takes(coat, what - 10)
                    : in(what, 20, 25) ? m.bear(coat, what - 20) : -5;
        }
        due("told(" + c + ", " + what + ")", x.told(c, what), want);
        int k = near(0, 5);
        int[] above = {-1, 0, 0, 0, 1, 2};
        want = -2;
        if (in(k, 0, 5)) {
            want = -11;
            if (!m.noCoat(c)) {
                int kind = m.coats.get(c)[0];
                while (kind >= 0 && kind != k) {
                    kind = above[kind];
                }
                want = kind < 0 ? -13 : m.coats.get(c)[3];
            }
        }
        due("taken(" + c + ", " + k + ")", x.taken(c, k), want);
    }

    private void tellShades() {
        int a = near(0, m.hanks.size() - 1);
        int b = near(0, m.hanks.size() - 1);
        boolean bad = m.noHank(a) || m.noHank(b);
        due("seen(" + a + ", " + b + ")", x.seen(a, b), bad || a == b ? -5 : m.seen(m.ounces(), a, b));
        int k = near(1, 9);
        due("between(" + a + ", " + b + ", " + k + ")", x.between(a, b, k),
                bad || a == b || !in(k, 1, 9) ? -2 : (k * m.shade(a) + m.shade(b)) / (k + 1));
        int c = near(0, m.coats.size() - 1);
        int meeting = near(0, 5);
        int want = -2;
        if (!bad && !m.noCoat(c) && in(meeting, 0, 5)) {
            want = a == b || m.seen(m.ounces(), a, b) <= m.bear(m.coats.get(c), meeting) ? 1 : 0;
        }
        if (a >= 0 && b >= 0) {
            due("mayMeet(" + c + ", " + meeting + ", " + (100 * a + b) + ")", x.mayMeet(c, meeting, 100 * a + b), want);
        }
        int bits = near(0, (1 << m.hanks.size()) - 1);
        want = -1;
        for (int i = 0; i < m.hanks.size(); i++) {
            for (int j = 0; j < i; j++) {
                if ((bits >> i & 1) + (bits >> j & 1) == 2) {
                    want = Math.max(want, m.seen(m.ounces(), i, j));
                }
            }
        }
        due("range(" + bits + ")", x.range(bits), bits < 0 || bits >> m.hanks.size() != 0 ? -2 : want);
    }

    private void tellAll() {
        int kept = 0;
        for (int[] coat : m.coats) {
            kept += coat[4] == 1 ? m.keep(coat) : 0;
        }
        int left = 0;
        int bits = 0;
        for (int hank = 0; hank < m.hanks.size(); hank++) {
            int[] h = m.hanks.get(hank);
            left += h[0];
            bits |= h[0] == 1 || h[0] == 2 ? 1 << hank : 0;
            int[] want = {h[0], m.shade(hank), h[2]};
            for (int what = 0; what < 3; what++) {
                due("hankTold(" + hank + ", " + what + ")", x.hankTold(hank, what), want[what]);
            }
        }
        int[] want = {m.hanks.size(), m.coats.size(), m.done(), m.texts.size(), m.tape.length(), m.rule, left, kept, bits, -2};
        for (int what = 0; what < want.length; what++) {
            due("count(" + what + ")", x.count(what), want[what]);
        }
        int day = near(0, 99);
        int late = 0;
        for (int[] coat : m.coats) {
            late += coat[0] == 4 ? Math.max(0, (coat[4] == 1 ? coat[6] : day) - coat[2]) : 0;
        }
        due("late(" + day + ")", x.late(day), in(day, 0, 99) ? late : -2);
    }

    private void oneCall() {
        switch (any(0, 19)) {
            case 0: makeHank(any(0, 90)); break;
            case 1: makeCoat(); break;
            case 2: case 3: knit(); break;
            case 4: undo(); break;
            case 5: case 6: judge(); break;
            case 7: case 8: can(); break;
            case 9: most(); break;
            case 10: if (random.nextInt(6) == 0) { more(); } break;
            case 11: imageOrBack(); break;
            case 12: case 13: changeHanks(); break;
            case 14: case 15: tellCoat(); break;
            case 16: case 17: tellShades(); break;
            case 18: if (random.nextInt(3) == 0) { feedAndRead(); } break;
            default: tellAll(); break;
        }
    }

    private int run(int runs) {
        for (int run = 0; run < runs && wrong == 0; run++) {
            x = new SleeveDarker();
            m = new Model();
            told.setLength(0);
            calls = 0;
            setUp();
            for (int step = 0; step < STEPS && calls < CALLS && wrong == 0; step++) {
                oneCall();
            }
        }
        return wrong;
    }

    public static void main(String[] args) {
        int runs = args.length > 0 ? Integer.parseInt(args[0]) : RUNS;
        int wrong = new ModelTest().run(runs);
        System.out.println(wrong == 0 ? "the class and the model agree in " + runs + " runs" : "they disagree");
        if (wrong != 0) {
            System.exit(1);
        }
    }
}
