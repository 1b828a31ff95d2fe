import java.util.Random;

/** Calls with any numbers in any state (from a fixed seed): none may throw, and none answers outside what is told. */
public final class WildTest {
    private static final int OBJECTS = 3000;
    private static final int CALLS = 512;
    private static final int[] EDGES = {
        Integer.MIN_VALUE, Integer.MIN_VALUE + 1, -101, -14, -5, -2, -1, 0, 1, 2, 3, 4, 5, 6, 7, 8, 9, 10, 14, 20, 25, 26,
        39, 40, 41, 50, 51, 63, 64, 99, 100, 101, 202, 505, 7775, 7776, 20999, 21000, Integer.MAX_VALUE - 1, Integer.MAX_VALUE};
    private static final String[] PIECES = {
        "bear ", "seen ", "keep ", ";", "or ", "and ", "not ", "ounces ", "apart ", "size ", "worn ", "faded ", "vat ",
        "(", ")", "+", "-", "*", "<", "=", "7", "9999", "12345", " ", "\n", "?", "z"};

    private final Random random = new Random(18112026);
    private SleeveDarker x;

    private int any() {
        switch (random.nextInt(4)) {
            case 0: return EDGES[random.nextInt(EDGES.length)];
            case 1: return random.nextInt(8);
            case 2: return random.nextInt(100);
            default: return random.nextInt(60) == 0 ? random.nextInt() : random.nextInt(3);
        }
    }

    private void feedPiece() {
        String piece = PIECES[random.nextInt(PIECES.length)];
        for (int i = 0; i < piece.length(); i++) {
            x.feed(1, piece.charAt(i));
        }
    }

    private int feedSound() {
        String text = "bear vat*2;seen apart*(ounces<60);keep ounces-worn;";
        for (int i = 0; i < text.length(); i++) {
            x.feed(1, text.charAt(i));
        }
        return x.text();
    }

    private int call() {
        switch (random.nextInt(31)) {
            case 0: return x.hank(any(), any(), any());
            case 1: return x.ounces(any(), any());
            case 2: return x.fade(any(), any());
            case 3: return x.coat(any(), any(), any());
            case 4: return x.told(any(), any());
            case 5: return x.hankTold(any(), any());
            case 6: return x.feed(any(), random.nextLong());
            case 7: return x.text();
            case 8: return x.force(any());
            case 9: return x.seen(any(), any());
            case 10: return x.mayMeet(any(), any(), any());
            case 11: return x.between(any(), any(), any());
            case 12: return x.range(any());
            case 13: return x.judge(any(), random.nextInt(7800) - 10);
            case 14: return x.can(any(), any());
            case 15: return x.knit(any(), Math.max(-1, x.can(random.nextInt(4), 0)), any());
            case 16: return x.undo(any());
            case 17: return x.most(any());
            case 18: return x.more(any());
            case 19: return x.late(any());
            case 20: return x.image();
            case 21: return x.back();
            case 22: return x.count(any());
            case 23: return x.sheet(any(), any(), any());
            case 24: return x.cell(any(), any(), any());
            case 25: return x.copy(any(), any(), any(), any(), any());
            case 26: return x.hanks(any(), any(), any(), any());
            case 27: return x.taken(any(), any());
            case 28: return random.nextInt(9) == 0 ? feedSound() : 0;
            case 29: return x.hank(random.nextInt(60), 50 + random.nextInt(4), random.nextInt(3));
            default: feedPiece(); return 0;
        }
    }

    private int run() {
        int wrong = 0;
        for (int i = 0; i < OBJECTS; i++) {
            x = new SleeveDarker();
            for (int calls = 0; calls < CALLS; calls++) {
                int answer = call();
                // Faults lie within -260 .. -100; losses of a coat are at least -40.
                wrong += answer < -260 || answer > 20 * 999 ? 1 : 0;
            }
        }
        return wrong;
    }

    public static void main(String[] args) {
        int wrong = new WildTest().run();
        System.out.println(wrong == 0 ? "no call threw" : wrong + " answers lie outside");
        if (wrong != 0) {
            System.exit(1);
        }
    }
}
