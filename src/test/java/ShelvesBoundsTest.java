/** The bounds of promises 1 to 8: a new object, SHELVES and what they hold. */
public final class ShelvesBoundsTest {
    private static final int NONE = Bench.NONE;
    private static final int ROW = Bench.ROW;
    private static final int ONE = Bench.ONE;
    private static final int BARE = Bench.BARE;
    private static final int SHORT_ROW = Bench.SHORT_ROW;

    public static void main(String[] args) {
        newObject();
        row();
        newRow();
        set();
        lowestBits();
        copy();
        copyStretches();
        copyAsTheyWere();
        element();
        holds();
        show();
        says();
        saysByKind();
        Bench.end();
    }

    private static void newObject() {
        Bench.sentence(1, "Nobody; SHELVES hold NOTHING; THE TAPE is empty");
        int[] want = {0, 25, 1, 0, 2, NONE, 0, 0, 1, 0};
        for (int what = 0; what < want.length; what++) {
            int w = what;
            Bench.asks("status(" + what + ")", Bench.fresh(), want[what], x -> x.status(w));
        }
        for (int what = 12; what <= 16; what++) {
            Bench.due("no REFUSALS yet", new ColdestSaysSo().status(what), 0);
        }
        Bench.refused("nothing was kept", Bench.fresh(), Bench.STUCK, x -> x.back());
        ColdestSaysSo used = Bench.crowd().make();
        used.show(9, 9);
        Bench.due("one object has nothing of another", new ColdestSaysSo().status(0), 0);
        Bench.due("one object has nothing of another", new ColdestSaysSo().status(12), 0);
    }

    private static void row() {
        Bench.sentence(2, "SHELF s holds a new ROW: 1. BAD");
        Bench.range("SHELF", Bench.crowd(), 0, 7, (x, v) -> x.row(v, 0, 1));
        Bench.range("SORT", Bench.crowd(), 0, 4, (x, v) -> x.row(ROW, v, 1));
        Bench.range("n", Bench.crowd(), 0, 40, (x, v) -> x.row(ROW, 0, v));
        Bench.refused("all three", Bench.crowd(), Bench.BAD, x -> x.row(8, 5, 41));
        for (int sort = 0; sort <= 4; sort++) {
            int of = sort;
            Bench.is("row", Bench.crowd(), 1, x -> x.row(7, of, 40));
            Bench.is("holds", Bench.with(Bench.crowd(), x -> x.row(7, of, 0)), sort, x -> x.holds(7));
        }
        Bench.sentence(2, "a ROW has 0 to 40 elements");
        for (int n : new int[] {0, 1, 2, 39, 40}) {
            Bench.World world = Bench.with(Bench.crowd(), x -> x.row(5, 3, n));
            Bench.outside("set in " + n, world, Bench.BAD, 0, n - 1, (x, v) -> x.set(5, v, 9));
            if (n > 0) {
                Bench.is("the last of " + n, world, 1, x -> x.set(5, n - 1, 9));
            }
        }
    }

    private static void newRow() {
        Bench.sentence(2, "elements (0, or not so, at first)");
        for (int sort = 0; sort <= 4; sort++) {
            int of = sort;
            Bench.World over = Bench.with(Bench.crowd(), x -> Bench.fill(x, ROW, of, 7, 7, 7), x -> x.row(ROW, of, 40));
            for (int i : new int[] {0, 1, 2, 3, 39}) {
                Bench.asks("over another ROW, element " + i, over, 0, x -> x.element(ROW, i));
            }
            Bench.asks("over one of the PEOPLE", Bench.with(Bench.crowd(), x -> x.row(ONE, of, 1)), 0, x -> x.element(ONE, 0));
            Bench.asks("what it holds then", Bench.with(Bench.crowd(), x -> x.row(ONE, of, 0)), sort, x -> x.holds(ONE));
        }
        Bench.World shorter = Bench.with(Bench.crowd(), x -> x.row(ROW, 1, 39));
        Bench.refused("a shorter ROW", shorter, Bench.BAD, x -> x.set(ROW, 39, 1));
        Bench.asks("a shorter ROW", shorter, 0, x -> x.element(ROW, 39));
        Bench.asks("a ROW of 0 elements is something", Bench.with(Bench.fresh(), x -> x.row(0, 0, 0)), 1, x -> x.status(9));
    }

    private static void set() {
        Bench.sentence(3, "BAD SHELF; OTHER; NOTHING; BAD i");
        Bench.range("SHELF", Bench.with(Bench.crowd(), x -> x.row(7, 0, 1)), 0, 7, (x, v) -> x.set(v, 0, 1));
        Bench.outside("SHELF, and BAD i", Bench.crowd(), Bench.BAD, 0, 7, (x, v) -> x.set(v, -1, 1));
        Bench.refused("OTHER", Bench.crowd(), Bench.OTHER, x -> x.set(ONE, 0, 1));
        Bench.outside("OTHER ahead of BAD i", Bench.crowd(), Bench.OTHER, 0, 39, (x, v) -> x.set(ONE, v, 1));
        Bench.refused("NOTHING", Bench.crowd(), Bench.NOTHING, x -> x.set(BARE, 0, 1));
        Bench.outside("NOTHING ahead of BAD i", Bench.crowd(), Bench.NOTHING, 0, 39, (x, v) -> x.set(BARE, v, 1));
        Bench.range("i of 40", Bench.crowd(), 0, 39, (x, v) -> x.set(ROW, v, 1));
        Bench.range("i of 3", Bench.crowd(), 0, 2, (x, v) -> x.set(SHORT_ROW, v, 1));
        Bench.refused("emptied", Bench.with(Bench.crowd(), x -> x.show(ROW, NONE)), Bench.NOTHING, x -> x.set(ROW, 0, 1));
        Bench.World set = Bench.with(Bench.crowd(), x -> x.set(SHORT_ROW, 1, 8));
        for (int i = 0; i < 4; i++) {
            int at = i;
            Bench.asks("element " + i, set, i == 1 ? 8 : 0, x -> x.element(SHORT_ROW, at));
        }
    }

    private static void lowestBits() {
        Bench.sentence(3, "what is put in keeps its lowest bits (of booleans: whether it is not 0)");
        long[][] bytes = {{127, 127}, {128, -128}, {-128, -128}, {-129, 127}, {255, -1}, {256, 0}, {Long.MAX_VALUE, -1},
            {Long.MIN_VALUE, 0}, {-1, -1}};
        long[][] shorts = {{32767, 32767}, {32768, -32768}, {-32768, -32768}, {-32769, 32767}, {65535, -1}, {65536, 0},
            {Long.MAX_VALUE, -1}, {Long.MIN_VALUE, 0}, {128, 128}};
        long[][] ints = {{2147483647L, 2147483647L}, {2147483648L, -2147483648L}, {-2147483648L, -2147483648L},
            {-2147483649L, 2147483647L}, {4294967295L, -1}, {4294967296L, 0}, {Long.MAX_VALUE, -1}, {Long.MIN_VALUE, 0}};
        long[][] longs = {{Long.MAX_VALUE, Long.MAX_VALUE}, {Long.MIN_VALUE, Long.MIN_VALUE}, {4294967296L, 4294967296L},
            {-1, -1}, {0, 0}};
        long[][] booleans = {{0, 0}, {1, 1}, {-1, 1}, {2, 1}, {256, 1}, {65536, 1}, {4294967296L, 1}, {Long.MIN_VALUE, 1},
            {Long.MAX_VALUE, 1}};
        long[][][] all = {bytes, shorts, ints, longs, booleans};
        for (int sort = 0; sort <= 4; sort++) {
            int of = sort;
            for (long[] put : all[sort]) {
                Bench.World world = Bench.with(Bench.fresh(), x -> x.row(0, of, 2), x -> x.set(0, 1, put[0]));
                Bench.asks(put[0] + " in SORT " + sort, world, put[1], x -> x.element(0, 1));
                Bench.asks("beside it", world, 0, x -> x.element(0, 0));
            }
            Bench.World again = Bench.with(Bench.fresh(), x -> x.row(0, of, 1), x -> x.set(0, 0, 1), x -> x.set(0, 0, 0));
            Bench.asks("0 again in SORT " + sort, again, 0, x -> x.element(0, 0));
        }
    }

    private static void copy() {
        Bench.sentence(4, "BAD SHELVES; OTHER (also ROWS of two SORTS, if both hold something); NOTHING; BAD the others");
        Bench.World world = Bench.with(Bench.crowd(), x -> x.row(7, 1, 1), x -> x.row(6, 2, 1));
        Bench.outside("p", world, Bench.BAD, 0, 7, (x, v) -> x.copy(v, ROW, 0, 0, 1));
        Bench.outside("q", world, Bench.BAD, 0, 7, (x, v) -> x.copy(ROW, v, 0, 0, 1));
        Bench.outside("p ahead of OTHER", world, Bench.BAD, 0, 7, (x, v) -> x.copy(v, ONE, 0, 0, 1));
        Bench.outside("q ahead of OTHER", world, Bench.BAD, 0, 7, (x, v) -> x.copy(ONE, v, 0, 0, 1));
        Bench.outside("q ahead of NOTHING", world, Bench.BAD, 0, 7, (x, v) -> x.copy(BARE, v, 0, 0, 1));
        Bench.is("p 0, q 7", world, 1, x -> x.copy(0, 7, 0, 0, 1));
        Bench.is("p 7, q 0", world, 1, x -> x.copy(7, 0, 0, 0, 1));
        int[][] others = {{ONE, ROW}, {ROW, ONE}, {ONE, ONE}, {ONE, BARE}, {BARE, ONE}, {ROW, 6}, {6, ROW}};
        for (int[] o : others) {
            Bench.refused("OTHER", world, Bench.OTHER, x -> x.copy(o[0], o[1], 0, 0, 1));
            Bench.refused("OTHER ahead of BAD", world, Bench.OTHER, x -> x.copy(o[0], o[1], -1, 41, -1));
            Bench.refused("OTHER though n is 0", world, Bench.OTHER, x -> x.copy(o[0], o[1], 0, 0, 0));
        }
        int[][] nothings = {{BARE, ROW}, {ROW, BARE}, {BARE, BARE}, {BARE, 6}, {6, BARE}};
        for (int[] o : nothings) {
            Bench.refused("NOTHING", world, Bench.NOTHING, x -> x.copy(o[0], o[1], 0, 0, 1));
            Bench.refused("NOTHING ahead of BAD", world, Bench.NOTHING, x -> x.copy(o[0], o[1], -1, 41, -1));
            Bench.refused("NOTHING though n is 0", world, Bench.NOTHING, x -> x.copy(o[0], o[1], 0, 0, 0));
        }
        for (int sort = 0; sort <= 4; sort++) {
            for (int other = 0; other <= 4; other++) {
                int of = sort;
                int with = other;
                Bench.World two = Bench.with(Bench.crowd(), x -> x.row(6, of, 2), x -> x.row(7, with, 2));
                if (of == with) {
                    Bench.is("of one SORT", two, 2, x -> x.copy(6, 7, 0, 0, 2));
                } else {
                    Bench.refused("of two SORTS", two, Bench.OTHER, x -> x.copy(6, 7, 0, 0, 2));
                }
            }
        }
    }

    private static void copyStretches() {
        Bench.sentence(4, "BAD the others");
        Bench.World world = Bench.crowd();
        Bench.range("i, of one", world, 0, 39, (x, v) -> x.copy(ROW, SHORT_ROW, v, 0, 1));
        Bench.range("j, of one", world, 0, 39, (x, v) -> x.copy(SHORT_ROW, ROW, 0, v, 1));
        Bench.range("i, of three", world, 0, 37, (x, v) -> x.copy(ROW, SHORT_ROW, v, 0, 3));
        Bench.range("j, of three", world, 0, 37, (x, v) -> x.copy(SHORT_ROW, ROW, 0, v, 3));
        Bench.range("n, by where they go", world, 0, 3, (x, v) -> x.copy(ROW, SHORT_ROW, 0, 0, v));
        Bench.range("n, by where they are from", world, 0, 3, (x, v) -> x.copy(SHORT_ROW, ROW, 0, 0, v));
        Bench.range("n, from 1 on", world, 0, 2, (x, v) -> x.copy(SHORT_ROW, ROW, 1, 0, v));
        Bench.range("n, to 1 on", world, 0, 2, (x, v) -> x.copy(ROW, SHORT_ROW, 0, 1, v));
        Bench.range("n, all forty", world, 0, 40, (x, v) -> x.copy(ROW, ROW, 0, 0, v));
        Bench.range("i of none", world, 0, 40, (x, v) -> x.copy(ROW, SHORT_ROW, v, 0, 0));
        Bench.range("j of none", world, 0, 3, (x, v) -> x.copy(ROW, SHORT_ROW, 0, v, 0));
        int[][] wraps = {{Bench.MAX, 0, 1}, {0, Bench.MAX, 1}, {Bench.MAX, Bench.MAX, Bench.MAX}, {1, 1, Bench.MAX},
            {Bench.MAX, 0, Bench.MAX}, {Bench.MIN, 0, Bench.MIN}, {Bench.MAX, 0, Bench.MIN}};
        for (int[] w : wraps) {
            Bench.refused("a sum that wraps", world, Bench.BAD, x -> x.copy(ROW, ROW, w[0], w[1], w[2]));
        }
        Bench.World empty = Bench.with(Bench.crowd(), x -> x.row(6, 1, 0));
        Bench.asks("0 of a ROW of 0", empty, 0, x -> x.copy(6, 6, 0, 0, 0));
        Bench.refused("1 of a ROW of 0", empty, Bench.BAD, x -> x.copy(6, ROW, 0, 0, 1));
        Bench.refused("1 to a ROW of 0", empty, Bench.BAD, x -> x.copy(ROW, 6, 0, 0, 1));
        Bench.refused("from place 1 of a ROW of 0", empty, Bench.BAD, x -> x.copy(6, ROW, 1, 0, 0));
    }

    private static void copyAsTheyWere() {
        Bench.sentence(4, "n elements from place i on come to places j on (as they were): n");
        Bench.World world = Bench.withRow(Bench.fresh(), 3, 1, 2, 3, 4, 5);
        long[][] cases = {
            {0, 1, 4, 1, 1, 2, 3, 4},
            {1, 0, 4, 2, 3, 4, 5, 5},
            {0, 2, 3, 1, 2, 1, 2, 3},
            {0, 0, 5, 1, 2, 3, 4, 5},
            {4, 0, 1, 5, 2, 3, 4, 5},
            {2, 2, 0, 1, 2, 3, 4, 5}};
        for (long[] c : cases) {
            Bench.Call made = x -> x.copy(0, 0, (int) c[0], (int) c[1], (int) c[2]);
            Bench.is("copy", world, c[2], made);
            for (int i = 0; i < 5; i++) {
                int at = i;
                Bench.is("element " + i, Bench.with(world, made), c[3 + i], x -> x.element(0, at));
            }
        }
        Bench.World apart = Bench.with(world, x -> x.row(1, 3, 5), x -> x.copy(0, 1, 0, 0, 5), x -> x.set(0, 0, 9));
        Bench.is("two ROWS stay two", apart, 1, x -> x.element(1, 0));
    }

    private static void element() {
        Bench.sentence(5, "0: none, no ROW (nothing is refused)");
        Bench.World world = Bench.with(Bench.crowd(), x -> x.set(ROW, 0, 4), x -> x.set(SHORT_ROW, 2, 6));
        Bench.asks("the first", world, 4, x -> x.element(ROW, 0));
        Bench.asks("the last of 40", world, 5, x -> x.element(ROW, 39));
        Bench.asks("the last of 3", world, 6, x -> x.element(SHORT_ROW, 2));
        for (int i : new int[] {-1, 40, Bench.MIN, Bench.MAX}) {
            Bench.asks("no such element", world, 0, x -> x.element(ROW, i));
        }
        Bench.asks("no such element", world, 0, x -> x.element(SHORT_ROW, 3));
        for (int s : new int[] {-1, 8, Bench.MIN, Bench.MAX, ONE, BARE}) {
            Bench.asks("no ROW", world, 0, x -> x.element(s, 0));
        }
    }

    private static void holds() {
        Bench.sentence(6, "NONE NOTHING, no SHELF; 0 to 4 a ROW by its SORT; 10 and the number of one of the PEOPLE");
        for (int s : new int[] {-1, 8, Bench.MIN, Bench.MAX, BARE}) {
            Bench.asks("holds(" + s + ")", Bench.crowd(), NONE, x -> x.holds(s));
        }
        for (int one = 0; one < 8; one++) {
            int who = one;
            Bench.asks("one", Bench.with(Bench.alike(8), x -> x.show(7, who)), 10 + one, x -> x.holds(7));
        }
    }

    private static void show() {
        Bench.sentence(7, "SHELF s holds one of the PEOPLE, or NOTHING (person NONE): 1. BAD");
        Bench.range("SHELF", Bench.crowd(), 0, 7, (x, v) -> x.show(v, 0));
        Bench.range("SHELF, NOTHING", Bench.crowd(), 0, 7, (x, v) -> x.show(v, NONE));
        Bench.range("person of six", Bench.crowd(), -1, 5, (x, v) -> x.show(ROW, v));
        Bench.range("person of eight", Bench.alike(8), -1, 7, (x, v) -> x.show(0, v));
        Bench.range("nobody is there", Bench.fresh(), -1, -1, (x, v) -> x.show(0, v));
        for (int one = NONE; one < 8; one++) {
            int who = one;
            Bench.is("show", Bench.alike(8), 1, x -> x.show(7, who));
        }
        Bench.is("one of two SHELVES", Bench.with(Bench.crowd(), x -> x.show(7, 2)), 12, x -> x.holds(ONE));
        Bench.is("NOTHING over a ROW", Bench.with(Bench.crowd(), x -> x.show(ROW, NONE)), NONE, x -> x.holds(ROW));
        Bench.is("NOTHING over one", Bench.with(Bench.crowd(), x -> x.show(ONE, NONE)), NONE, x -> x.holds(ONE));
        for (int i : new int[] {0, 1, 39}) {
            Bench.World set = Bench.with(Bench.crowd(), x -> x.set(ROW, i, 5), x -> x.show(ROW, 0));
            Bench.asks("no ROW any more, element " + i, set, 0, x -> x.element(ROW, i));
            Bench.asks("nor behind one", Bench.with(set, x -> x.show(ROW, NONE)), 0, x -> x.element(ROW, i));
        }
    }

    private static void says() {
        Bench.sentence(8, "BAD SHELF, KIND; OTHER (also if he is of no such KIND nor of one under it); NOTHING");
        Bench.World all = () -> {
            ColdestSaysSo x = new ColdestSaysSo();
            x.person(5, 0, 0);
            x.show(0, 0);
            x.show(7, 0);
            return x;
        };
        Bench.range("SHELF", all, 0, 7, (x, v) -> x.says(v, 0));
        Bench.outside("KIND", Bench.crowd(), Bench.BAD, 0, 5, (x, v) -> x.says(ONE, v));
        Bench.outside("KIND ahead of OTHER", Bench.crowd(), Bench.BAD, 0, 5, (x, v) -> x.says(ROW, v));
        Bench.outside("KIND ahead of NOTHING", Bench.crowd(), Bench.BAD, 0, 5, (x, v) -> x.says(BARE, v));
        for (int kind = 0; kind <= 5; kind++) {
            int of = kind;
            Bench.refused("a ROW", Bench.crowd(), Bench.OTHER, x -> x.says(ROW, of));
            Bench.refused("NOTHING", Bench.crowd(), Bench.NOTHING, x -> x.says(BARE, of));
        }
        Bench.World gone = Bench.with(Bench.crowd(), x -> x.show(5, 5), x -> x.back());
        Bench.refused("he isn't there any more", gone, Bench.NOTHING, x -> x.says(5, 0));
    }

    private static void saysByKind() {
        Bench.sentence(8, "PERSON his PRIDE; the others his COLD, by his own KIND");
        int[] pride = {4, 6, 3, 5, 0, 9};
        int[] cold = {13, 14, 21, 5, 25, 21};
        boolean[][] under = {
            {true, false, false, false, false, false},
            {true, true, false, false, false, false},
            {true, false, true, false, false, false},
            {true, true, false, true, false, false},
            {true, false, true, false, true, false},
            {true, false, false, false, false, true}};
        for (int one = 0; one < 6; one++) {
            int who = one;
            Bench.World world = Bench.with(Bench.crowd(), x -> x.show(7, who));
            for (int kind = 0; kind < 6; kind++) {
                int of = kind;
                if (under[one][kind]) {
                    Bench.asks("one of KIND " + one + " for " + kind, world, kind == 0 ? pride[one] : cold[one],
                            x -> x.says(7, of));
                } else {
                    Bench.refused("one of KIND " + one + " for " + kind, world, Bench.OTHER, x -> x.says(7, of));
                }
            }
        }
        Bench.World now = Bench.with(Bench.crowd(), x -> x.give(2, 0, 20), x -> x.give(2, 2, 40));
        Bench.asks("PRIDE as it is now", now, 20, x -> x.says(ONE, 0));
        Bench.asks("COLD as it is now", now, 5, x -> x.says(ONE, 2));
    }
}
