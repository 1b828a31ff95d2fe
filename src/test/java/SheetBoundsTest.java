/** The boundary sentences of promises 25 to 28: sheets, and hanks that come from them. */
public final class SheetBoundsTest extends Calls {
    private static final int[] ANY = {LOW, -1, 0, 1, 40, 41, HIGH};

    /** Sheet 0: 6 bytes, 1: 6 shorts, 2: 6 ints, each 1 .. 6; 3 is missing. No hanks. */
    private static SleeveDarker some() {
        SleeveDarker x = new SleeveDarker();
        for (int sheet = 0; sheet < 3; sheet++) {
            x.sheet(sheet, sheet, 6);
            for (int i = 0; i < 6; i++) {
                x.cell(sheet, i, i + 1);
            }
        }
        return x;
    }

    /** Two sheets of a sort, of 6 and 4 items: 1 .. 6 and 0. */
    private static SleeveDarker twoOf(int sort) {
        SleeveDarker x = new SleeveDarker();
        x.sheet(0, sort, 6);
        x.sheet(1, sort, 4);
        for (int i = 0; i < 6; i++) {
            x.cell(0, i, i + 1);
        }
        return x;
    }

    /** Three items of a sheet as the hank that they make; the object has room for one more then. */
    private static void itemsDue(String call, SleeveDarker x, int sheet, int sort, int from, int... want) {
        int hank = x.count(0);
        due(call + ": items come", x.hanks(sheet, sort, from, 1), 1);
        for (int i = 0; i < 3; i++) {
            due(call + ": item " + (from + i), x.hankTold(hank, i), want[i]);
        }
    }

    /** The sheets of some() as they were made. */
    private static void sheetsStay(String call, SleeveDarker x) {
        for (int sheet = 0; sheet < 3; sheet++) {
            due(call + ": size stays", x.cell(sheet, 6, 0), -12);
            itemsDue(call, x, sheet, sheet, 0, 1, 2, 3);
            itemsDue(call, x, sheet, sheet, 3, 4, 5, 6);
        }
        due(call + ": missing stays", x.cell(3, 0, 0), -11);
    }

    private static void sheetsRefuse(String call, int want, Call refusal) {
        SleeveDarker x = some();
        due(call, refusal.on(x), want);
        due(call + ": no hank came", x.count(0), 0);
        sheetsStay(call, x);
    }

    // Promise 25: "BAD: no such SHEET, sort; n above 40; -14", in this order
    private static void sheetRefused() {
        for (int sheet : new int[] {-1, 4, LOW, HIGH}) {
            for (int n : ANY) {
                sheetsRefuse("sheet " + sheet + " of " + n, BAD, x -> x.sheet(sheet, 0, n));
                sheetsRefuse("sheet " + sheet + " missing", BAD, x -> x.sheet(sheet, -1, n));
            }
        }
        for (int sort : new int[] {-2, 3, LOW, HIGH}) {
            for (int n : ANY) {
                sheetsRefuse("sort " + sort + " of " + n, BAD, x -> x.sheet(0, sort, n));
            }
        }
        for (int sort = 0; sort < 3; sort++) {
            int its = sort;
            for (int n : new int[] {41, 42, HIGH}) {
                sheetsRefuse("n " + n, BAD, x -> x.sheet(0, its, n));
                sheetsRefuse("n " + n + " of a missing one", BAD, x -> x.sheet(3, its, n));
            }
            for (int n : new int[] {-1, -2, LOW}) {
                sheetsRefuse("n " + n, -14, x -> x.sheet(0, its, n));
                sheetsRefuse("n " + n + " of a missing one", -14, x -> x.sheet(3, its, n));
            }
        }
    }

    // "a row of n of a sort, all 0, or missing (sort -1: n does not matter): 1"
    private static void sheetsMade() {
        for (int sheet = 0; sheet < 4; sheet++) {
            for (int sort = 0; sort < 3; sort++) {
                for (int n : new int[] {0, 1, 3, 39, 40}) {
                    SleeveDarker x = some();
                    due("sheet of " + n, x.sheet(sheet, sort, n), 1);
                    due("its last item", x.cell(sheet, n - 1, 0), n == 0 ? -12 : 1);
                    due("behind its last", x.cell(sheet, n, 0), -12);
                    due("its sort", x.hanks(sheet, sort, 0, 0), 0);
                    due("another sort", x.hanks(sheet, (sort + 1) % 3, 0, 0), -13);
                    due("the third sort", x.hanks(sheet, (sort + 2) % 3, 0, 0), -13);
                }
            }
            for (int n : ANY) {
                SleeveDarker x = some();
                due("missing, n " + n, x.sheet(sheet, -1, n), 1);
                due("it is missing", x.cell(sheet, 0, 0), -11);
            }
        }
        SleeveDarker x = some();
        x.sheet(1, -1, 0);
        x.sheet(1, -1, 0);
        due("missing twice", x.hanks(1, 1, 0, 0), -11);
        due("another stays", x.hanks(0, 0, 0, 0), 0);
    }

    // "all 0", also when it was something, or was missing in between
    private static void allZero() {
        for (int sheet = 0; sheet < 3; sheet++) {
            SleeveDarker x = some();
            x.sheet(sheet, sheet, 6);
            itemsDue("made anew", x, sheet, sheet, 0, 0, 0, 0);
            itemsDue("made anew", x, sheet, sheet, 3, 0, 0, 0);
            x = some();
            x.sheet(sheet, -1, 0);
            x.sheet(sheet, (sheet + 1) % 3, 6);
            itemsDue("was missing", x, sheet, (sheet + 1) % 3, 0, 0, 0, 0);
            itemsDue("was missing", x, sheet, (sheet + 1) % 3, 3, 0, 0, 0);
            x = some();
            x.sheet(sheet, sheet, 2);
            x.sheet(sheet, sheet, 40);
            itemsDue("was smaller", x, sheet, sheet, 3, 0, 0, 0);
            itemsDue("was smaller", x, sheet, sheet, 37, 0, 0, 0);
        }
    }

    // Promise 26: "BAD: no such SHEET; -11; -12", in this order
    private static void cellRefused() {
        for (int i : ANY) {
            for (int sheet : new int[] {-1, 4, LOW, HIGH}) {
                sheetsRefuse("cell of " + sheet, BAD, x -> x.cell(sheet, i, 9));
            }
            sheetsRefuse("cell of a missing one", -11, x -> x.cell(3, i, 9));
        }
        for (int sheet = 0; sheet < 3; sheet++) {
            int its = sheet;
            for (int i : new int[] {-1, 6, 7, 40, LOW, HIGH}) {
                sheetsRefuse("cell " + i, -12, x -> x.cell(its, i, 9));
            }
        }
        SleeveDarker x = new SleeveDarker();
        x.sheet(0, 0, 0);
        due("cell 0 of an empty one", x.cell(0, 0, 9), -12);
        due("cell -1 of an empty one", x.cell(0, -1, 9), -12);
        x.sheet(3, 2, 40);
        due("cell 39 of 40", x.cell(3, 39, 9), 1);
        due("cell 40 of 40", x.cell(3, 40, 9), -12);
    }

    // "(of bytes, shorts its lowest 8, 16 bits)"
    private static void lowestBits() {
        int[][] bytes = {{99, 99}, {256 + 5, 5}, {-256 + 5, 5}, {65536 + 7, 7}, {LOW, 0}, {LOW + 8, 8}, {0x7fffff09, 9}, {-250, 6}};
        int[][] shorts = {{99, 99}, {65536 + 5, 5}, {-65536 + 5, 5}, {LOW, 0}, {LOW + 8, 8}, {0x7fff0009, 9}};
        int[][] ints = {{99, 99}, {0, 0}, {1, 1}};
        int[][][] sound = {bytes, shorts, ints};
        int[][] bad = {{128, 255, 100, -1, 127, 256 + 128, HIGH}, {256 + 5, 32768, 65535, -1, 100, -256, HIGH},
            {65536 + 5, 256 + 5, -1, LOW, HIGH, 100, -65536}};
        for (int sort = 0; sort < 3; sort++) {
            for (int[] each : sound[sort]) {
                SleeveDarker x = twoOf(sort);
                due("cell", x.cell(0, 1, each[0]), 1);
                itemsDue("cell " + each[0] + " of sort " + sort, x, 0, sort, 0, 1, each[1], 3);
            }
            for (int v : bad[sort]) {
                SleeveDarker x = twoOf(sort);
                due("cell", x.cell(0, 1, v), 1);
                due("cell " + v + " of sort " + sort + " is no shade", x.hanks(0, sort, 0, 1), 0);
                due("none came", x.count(0), 0);
            }
        }
    }

    // Promise 27: "BAD: no such SHEET; -11; -13: they are of unlike sorts; -12 (also with n below 0)"
    private static void copyRefused() {
        int[][] places = {{0, 0, 1}, {-1, 0, 1}, {0, 7, 0}, {0, 0, -1}, {LOW, HIGH, LOW}};
        for (int[] at : places) {
            for (int none : new int[] {-1, 4, LOW, HIGH}) {
                for (int other = 0; other < 4; other++) {
                    int its = other;
                    sheetsRefuse("copy of " + none, BAD, x -> x.copy(none, at[0], its, at[1], at[2]));
                    sheetsRefuse("copy to " + none, BAD, x -> x.copy(its, at[0], none, at[1], at[2]));
                }
            }
            for (int other = 0; other < 4; other++) {
                int its = other;
                sheetsRefuse("copy of a missing one", -11, x -> x.copy(3, at[0], its, at[1], at[2]));
                sheetsRefuse("copy to a missing one", -11, x -> x.copy(its, at[0], 3, at[1], at[2]));
                for (int unlike = 0; unlike < 3; unlike++) {
                    int another = unlike;
                    if (other < 3 && unlike != other) {
                        sheetsRefuse("copy to another sort", -13, x -> x.copy(its, at[0], another, at[1], at[2]));
                    }
                }
            }
        }
    }

    // "-12 (also with n below 0)": i, j, n of sheets of 6 and 4
    private static void copyOutside() {
        int[][] outside = {{-1, 0, 1}, {0, -1, 1}, {0, 0, -1}, {0, 0, 5}, {0, 1, 4}, {3, 0, 4}, {6, 0, 1}, {5, 3, 2}, {0, 4, 1},
            {-1, 0, 0}, {0, -1, 0}, {7, 0, 0}, {0, 5, 0}, {7, 0, -1}, {1, 1, -1}, {LOW, 0, 1}, {0, LOW, 1}, {0, 0, LOW},
            {HIGH, 0, 1}, {0, HIGH, 1}, {0, 0, HIGH}, {1, 0, HIGH}, {0, 1, HIGH}, {HIGH, HIGH, HIGH}, {HIGH, 0, LOW},
            {LOW, LOW, LOW}, {HIGH, HIGH, 2}, {LOW, LOW, 0}, {HIGH, 0, 0}};
        for (int sort = 0; sort < 3; sort++) {
            for (int[] at : outside) {
                SleeveDarker x = twoOf(sort);
                String call = "copy " + at[0] + " " + at[1] + " " + at[2];
                due(call, x.copy(0, at[0], 1, at[1], at[2]), -12);
                itemsDue(call, x, 1, sort, 0, 0, 0, 0);
                itemsDue(call, x, 1, sort, 1, 0, 0, 0);
            }
        }
    }

    // "n numbers ... from item i on, come to another one's item j on: n"
    private static void copies() {
        int[][] within = {{0, 0, 4, 1, 2, 3, 4}, {2, 0, 4, 3, 4, 5, 6}, {5, 3, 1, 0, 0, 0, 6}, {0, 0, 0, 0, 0, 0, 0}, {6, 4, 0, 0, 0, 0, 0},
            {6, 0, 0, 0, 0, 0, 0}, {0, 4, 0, 0, 0, 0, 0}, {1, 1, 2, 0, 2, 3, 0}, {0, 0, 1, 1, 0, 0, 0}};
        for (int sort = 0; sort < 3; sort++) {
            for (int[] at : within) {
                SleeveDarker x = twoOf(sort);
                String call = "copy " + at[0] + " " + at[1] + " " + at[2] + " of sort " + sort;
                due(call, x.copy(0, at[0], 1, at[1], at[2]), at[2]);
                itemsDue(call, x, 1, sort, 0, at[3], at[4], at[5]);
                itemsDue(call, x, 1, sort, 1, at[4], at[5], at[6]);
                itemsDue(call + ", as they were", x, 0, sort, 0, 1, 2, 3);
                itemsDue(call + ", as they were", x, 0, sort, 3, 4, 5, 6);
            }
        }
        SleeveDarker x = new SleeveDarker();
        x.sheet(2, 1, 40);
        x.sheet(3, 1, 40);
        x.cell(2, 39, 7);
        due("copy of all 40", x.copy(2, 0, 3, 0, 40), 40);
        itemsDue("the last of 40", x, 3, 1, 37, 0, 0, 7);
        due("copy of 41", x.copy(2, 0, 3, 0, 41), -12);
        x.sheet(0, 0, 0);
        x.sheet(1, 0, 0);
        due("nothing of an empty one", x.copy(0, 0, 1, 0, 0), 0);
        due("one of an empty one", x.copy(0, 0, 1, 0, 1), -12);
        due("nothing of one behind", x.copy(0, 1, 1, 0, 0), -12);
    }

    // "(as they were)": onto itself, forward, backward
    private static void copiesOntoItself() {
        for (int sort = 0; sort < 3; sort++) {
            SleeveDarker x = twoOf(sort);
            due("forward", x.copy(0, 0, 0, 1, 5), 5);
            itemsDue("forward", x, 0, sort, 0, 1, 1, 2);
            itemsDue("forward", x, 0, sort, 3, 3, 4, 5);
            x = twoOf(sort);
            due("backward", x.copy(0, 1, 0, 0, 5), 5);
            itemsDue("backward", x, 0, sort, 0, 2, 3, 4);
            itemsDue("backward", x, 0, sort, 3, 5, 6, 6);
            x = twoOf(sort);
            due("onto its place", x.copy(0, 0, 0, 0, 6), 6);
            itemsDue("onto its place", x, 0, sort, 3, 4, 5, 6);
            due("onto itself outside", x.copy(0, 1, 0, 0, 6), -12);
            due("onto itself outside", x.copy(0, 0, 0, 1, 6), -12);
            itemsDue("nothing of it came", x, 0, sort, 0, 1, 2, 3);
        }
        // A copy is no bond: what changes there later does not change here.
        SleeveDarker x = twoOf(1);
        x.copy(0, 0, 1, 0, 4);
        x.cell(0, 0, 9);
        itemsDue("no bond", x, 1, 1, 0, 1, 2, 3);
    }

    // Promise 28: "BAD: no such SHEET, sort, n; -13; -11 (n 0, too)", in this order
    private static void hanksRefused() {
        for (int from : ANY) {
            for (int n : new int[] {-1, 0, 1, 12, 13, LOW, HIGH}) {
                for (int none : new int[] {-1, 4, LOW, HIGH}) {
                    sheetsRefuse("hanks of " + none, BAD, x -> x.hanks(none, 0, from, n));
                }
                for (int sort : new int[] {-1, -2, 3, LOW, HIGH}) {
                    sheetsRefuse("hanks of sort " + sort, BAD, x -> x.hanks(0, sort, from, n));
                    sheetsRefuse("hanks of a missing one of sort " + sort, BAD, x -> x.hanks(3, sort, from, n));
                }
            }
            for (int sort = 0; sort < 3; sort++) {
                int its = sort;
                for (int n : new int[] {-1, 13, LOW, HIGH}) {
                    sheetsRefuse("hanks, n " + n, BAD, x -> x.hanks(its, its, from, n));
                    sheetsRefuse("hanks of another sort, n " + n, BAD, x -> x.hanks((its + 1) % 3, its, from, n));
                    sheetsRefuse("hanks of a missing one, n " + n, BAD, x -> x.hanks(3, its, from, n));
                }
                for (int n : new int[] {0, 1, 12}) {
                    sheetsRefuse("hanks of another sort", -13, x -> x.hanks((its + 1) % 3, its, from, n));
                    sheetsRefuse("hanks of a third sort", -13, x -> x.hanks((its + 2) % 3, its, from, n));
                    sheetsRefuse("hanks of a missing one", -11, x -> x.hanks(3, its, from, n));
                }
                sheetsRefuse("no hanks", 0, x -> x.hanks(its, its, from, 0));
            }
        }
    }

    // "-12: what stood ahead came"; "from one on, three by three"
    private static void hanksOutside() {
        for (int sort = 0; sort < 3; sort++) {
            int its = sort;
            for (int from : new int[] {-1, -2, -3, 4, 5, 6, 7, 40, LOW, HIGH, HIGH - 1, HIGH - 2, LOW + 1}) {
                for (int n : new int[] {1, 2, 12}) {
                    sheetsRefuse("hanks from " + from, -12, x -> x.hanks(its, its, from, n));
                }
            }
            int[][] due = {{0, 1, 1, 1}, {0, 2, 2, 2}, {0, 3, -12, 2}, {0, 12, -12, 2}, {1, 1, 1, 1}, {1, 2, -12, 1}, {2, 1, 1, 1},
                {2, 2, -12, 1}, {3, 1, 1, 1}, {3, 2, -12, 1}, {3, 12, -12, 1}};
            for (int[] each : due) {
                SleeveDarker x = some();
                due("hanks from " + each[0] + ", " + each[1], x.hanks(sort, sort, each[0], each[1]), each[2]);
                due("so many came", x.count(0), each[3]);
                for (int hank = 0; hank < each[3]; hank++) {
                    for (int what = 0; what < 3; what++) {
                        due("what came", x.hankTold(hank, what), each[0] + 3 * hank + what + 1);
                    }
                }
            }
        }
        SleeveDarker x = new SleeveDarker();
        x.sheet(0, 0, 0);
        due("hanks of an empty one", x.hanks(0, 0, 0, 1), -12);
        due("no hanks of an empty one", x.hanks(0, 0, 0, 0), 0);
        x.sheet(0, 0, 2);
        due("hanks of two items", x.hanks(0, 0, 0, 1), -12);
        x.sheet(0, 0, 3);
        due("hanks of three items", x.hanks(0, 0, 0, 1), 1);
    }

    // "how many came (others are left out)": bad ones, and all that come when there are six
    private static void othersAreLeftOut() {
        int[][] rows = {{0, 0, 0}, {99, 99, 8}, {100, 5, 5}, {-1, 5, 5}, {5, 100, 5}, {5, -1, 5}, {5, 5, 9}, {5, 5, -1}};
        int[] come = {1, 1, 0, 0, 0, 0, 0, 0};
        for (int sort = 0; sort < 3; sort++) {
            for (int row = 0; row < rows.length; row++) {
                SleeveDarker x = new SleeveDarker();
                x.sheet(0, sort, 6);
                for (int i = 0; i < 3; i++) {
                    x.cell(0, i, rows[row][i]);
                    x.cell(0, 3 + i, 7);
                }
                due("row " + row, x.hanks(0, sort, 0, 1), come[row]);
                due("row " + row + " and another", x.hanks(0, sort, 0, 2), come[row] + 1);
                due("hanks", x.count(0), 2 * come[row] + 1);
            }
        }
        SleeveDarker x = new SleeveDarker();
        x.sheet(2, 2, 36);
        for (int row = 0; row < 12; row++) {
            x.cell(2, 3 * row, row);
            x.cell(2, 3 * row + 1, row % 2 == 0 ? 50 : 100);
        }
        due("twelve rows, six are sound", x.hanks(2, 2, 0, 12), 6);
        for (int hank = 0; hank < 6; hank++) {
            due("hank " + hank, x.hankTold(hank, 0), 2 * hank);
        }
        due("no more come", x.hanks(2, 2, 0, 12), 0);
        due("what would come is outside all the same", x.hanks(2, 2, 3, 12), -12);
        x = withHanks(1, 1, 1, 1, 1, 1, 1, 1, 1, 1, 1, 1, 1, 1, 1);
        x.sheet(2, 2, 36);
        due("one has room", x.hanks(2, 2, 0, 12), 1);
        due("six", x.count(0), 6);
    }

    public static void main(String[] args) {
        sheetRefused();
        sheetsMade();
        allZero();
        cellRefused();
        lowestBits();
        copyRefused();
        copyOutside();
        copies();
        copiesOntoItself();
        hanksRefused();
        hanksOutside();
        othersAreLeftOut();
        end();
    }
}
