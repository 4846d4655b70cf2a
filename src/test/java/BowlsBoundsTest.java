/** The bounds of promises 31 to 35 and 51: BOWLS and a LOG, told by a ROW. */
public final class BowlsBoundsTest {
    private static final int NONE = Bench.NONE;

    public static void main(String[] args) {
        refusals(31, "clash", 20, 2, BowlsBoundsTest::clash);
        refusals(32, "orders", 20, 2, BowlsBoundsTest::orders);
        refusals(33, "next", 20, 2, BowlsBoundsTest::next);
        refusals(34, "mayBe", 20, 2, BowlsBoundsTest::mayBe);
        refusals(35, "wrongBowls", 20, 2, BowlsBoundsTest::wrongBowls);
        refusals(51, "judge", 40, 1, BowlsBoundsTest::judge);
        clashes();
        nobodySuch();
        stuck();
        manyOrders();
        nexts();
        mayBes();
        wrongs();
        logs();
        logsOfNobody();
        Bench.end();
    }

    private interface CallOfRow {
        long on(ColdestSaysSo x, int s, int n);
    }

    private static long clash(ColdestSaysSo x, int s, int n) {
        return x.clash(s, n);
    }

    private static long orders(ColdestSaysSo x, int s, int n) {
        return x.orders(s, n);
    }

    private static long next(ColdestSaysSo x, int s, int n) {
        return x.next(s, n);
    }

    private static long mayBe(ColdestSaysSo x, int s, int n) {
        return x.mayBe(s, n);
    }

    private static long wrongBowls(ColdestSaysSo x, int s, int n) {
        return x.wrongBowls(s, n);
    }

    private static long judge(ColdestSaysSo x, int s, int n) {
        return x.judge(s, n);
    }

    /** A ROW of forty elements by which 0 is less cold than 1, twenty times. */
    private static int tellMany(ColdestSaysSo x) {
        for (int i = 0; i < 40; i += 2) {
            x.set(Bench.ROW, i, 1);
            x.set(Bench.ROW, i + 1, 0);
        }
        return 1;
    }

    private static void refusals(int promise, String call, int most, int each, CallOfRow made) {
        Bench.sentence(promise, "BAD SHELF, n; OTHER; NOTHING; BAD: fewer elements");
        Bench.World world = Bench.with(Bench.crowd(), x -> tellMany(x), x -> x.row(7, 3, 0));
        Bench.range(call + ": SHELF", world, 0, 7, (x, v) -> made.on(x, v, 0));
        Bench.range(call + ": n", world, 0, most, (x, v) -> made.on(x, Bench.ROW, v));
        Bench.outside(call + ": n, in one", world, Bench.BAD, 0, most, (x, v) -> made.on(x, Bench.ONE, v));
        Bench.outside(call + ": n, in NOTHING", world, Bench.BAD, 0, most, (x, v) -> made.on(x, Bench.BARE, v));
        for (int n : new int[] {0, 1, most}) {
            Bench.refused(call + ": OTHER", world, Bench.OTHER, x -> made.on(x, Bench.ONE, n));
            Bench.refused(call + ": NOTHING", world, Bench.NOTHING, x -> made.on(x, Bench.BARE, n));
        }
        for (int n : new int[] {1, 2, most}) {
            Bench.World enough = Bench.with(world, x -> x.row(4, 1, each * n), x -> x.copy(Bench.ROW, 4, 0, 0, each * n));
            Bench.due(call + ": just enough, not BAD", made.on(enough.make(), 4, n) == Bench.BAD ? 1 : 0, 0);
            Bench.World less = Bench.with(world, x -> x.row(4, 1, each * n - 1));
            Bench.refused(call + ": one less", less, Bench.BAD, x -> made.on(x, 4, n));
        }
        Bench.refused(call + ": 1 of a ROW of 0", world, Bench.BAD, x -> made.on(x, 7, 1));
    }

    private static void clashes() {
        Bench.sentence(31, "CLASH: the first two that can't be with those ahead; NONE");
        Bench.World four = Bench.alike(4);
        Bench.asks("no twos", Bench.withRow(four, 0), NONE, x -> x.clash(0, 0));
        Bench.World round = Bench.withRow(four, 0, 0, 1, 1, 0, 2, 2);
        Bench.asks("only the first n", round, NONE, x -> x.clash(0, 1));
        Bench.asks("the other way", round, 1, x -> x.clash(0, 2));
        Bench.asks("the first", round, 1, x -> x.clash(0, 3));
        Bench.asks("one with himself, the first", Bench.withRow(four, 0, 3, 3), 0, x -> x.clash(0, 1));
        Bench.asks("told twice", Bench.withRow(four, 0, 0, 1, 0, 1), NONE, x -> x.clash(0, 2));
        Bench.asks("what follows", Bench.withRow(four, 0, 0, 1, 1, 2, 2, 3, 0, 3), NONE, x -> x.clash(0, 4));
        Bench.asks("around by three", Bench.withRow(four, 0, 0, 1, 1, 2, 2, 0), 2, x -> x.clash(0, 3));
        Bench.asks("around by four", Bench.withRow(four, 0, 0, 1, 1, 2, 2, 3, 3, 0), 3, x -> x.clash(0, 4));
        Bench.asks("joined last", Bench.withRow(four, 0, 2, 3, 0, 1, 3, 0, 1, 2), 3, x -> x.clash(0, 4));
        long[] all = new long[40];
        for (int k = 0; k < 20; k++) {
            all[2 * k] = k % 7;
            all[2 * k + 1] = k % 7 + 1;
        }
        Bench.World eight = Bench.withRow(Bench.alike(8), 0, all);
        Bench.asks("all twenty", eight, NONE, x -> x.clash(0, 20));
        Bench.World last = Bench.with(eight, x -> x.set(0, 38, 7), x -> x.set(0, 39, 0));
        Bench.asks("the last of twenty", last, 19, x -> x.clash(0, 20));
        Bench.asks("nineteen of them", last, NONE, x -> x.clash(0, 19));
        Bench.World first = Bench.with(eight, x -> x.set(0, 0, 1));
        Bench.asks("the first of twenty", first, 0, x -> x.clash(0, 20));
        Bench.asks("not by COLD as it is now", Bench.withRow(Bench.crowd(), 0, 3, 4), NONE, x -> x.clash(0, 1));
    }

    private static void nobodySuch() {
        Bench.sentence(31, "(also nobody such)");
        for (long who : new long[] {-1, 4, 5, 7, 8, 40, 1L << 32, (1L << 32) + 2, Long.MIN_VALUE, Long.MAX_VALUE}) {
            Bench.asks("colder: " + who, Bench.withRow(Bench.alike(4), 3, 0, 1, who, 2), 1, x -> x.clash(0, 2));
            Bench.asks("less cold: " + who, Bench.withRow(Bench.alike(4), 3, 0, 1, 2, who), 1, x -> x.clash(0, 2));
            Bench.asks("not read: " + who, Bench.withRow(Bench.alike(4), 3, 0, 1, 2, who), NONE, x -> x.clash(0, 1));
        }
        Bench.asks("the last of eight", Bench.withRow(Bench.alike(8), 0, 7, 6), NONE, x -> x.clash(0, 1));
        Bench.asks("the ninth", Bench.withRow(Bench.alike(8), 0, 8, 6), 0, x -> x.clash(0, 1));
        Bench.asks("nobody is there", Bench.withRow(Bench.fresh(), 0, 0, 1), 0, x -> x.clash(0, 1));
        Bench.asks("nobody is there, none told", Bench.withRow(Bench.fresh(), 0, 0, 1), NONE, x -> x.clash(0, 0));
        Bench.asks("two of booleans", Bench.withRow(Bench.alike(2), 4, 1, 0), NONE, x -> x.clash(0, 1));
    }

    private static void stuck() {
        CallOfRow[] calls = {BowlsBoundsTest::orders, BowlsBoundsTest::next, BowlsBoundsTest::mayBe,
            BowlsBoundsTest::wrongBowls};
        for (int i = 0; i < calls.length; i++) {
            CallOfRow made = calls[i];
            Bench.sentence(32 + i, "STUCK: they CLASH");
            Bench.World world = Bench.withRow(Bench.crowd(), 3, 0, 1, 1, 0);
            Bench.refused("they CLASH", world, Bench.STUCK, x -> made.on(x, 0, 2));
            Bench.due("ahead of it they don't", made.on(world.make(), 0, 1) >= NONE ? 1 : 0, 1);
            Bench.refused("fewer elements ahead of STUCK", world, Bench.BAD, x -> made.on(x, 0, 3));
            Bench.refused("one with himself", Bench.withRow(Bench.crowd(), 3, 5, 5), Bench.STUCK, x -> made.on(x, 0, 1));
            Bench.refused("nobody such", Bench.withRow(Bench.crowd(), 3, 5, 6), Bench.STUCK, x -> made.on(x, 0, 1));
            Bench.refused("nobody such", Bench.withRow(Bench.crowd(), 3, -1, 5), Bench.STUCK, x -> made.on(x, 0, 1));
            Bench.refused("nobody such", Bench.withRow(Bench.crowd(), 3, 1L << 32, 5), Bench.STUCK, x -> made.on(x, 0, 1));
            Bench.refused("nobody is there", Bench.withRow(Bench.fresh(), 3, 0, 1), Bench.STUCK, x -> made.on(x, 0, 1));
        }
    }

    private static void manyOrders() {
        Bench.sentence(32, "ORDERS of all PEOPLE that agree with all: how many");
        int all = 1;
        for (int many = 0; many <= 8; many++) {
            all *= Math.max(1, many);
            Bench.asks(many + " of whom nothing is told", Bench.withRow(Bench.alike(many), 0), all, x -> x.orders(0, 0));
        }
        Bench.asks("half of them", Bench.withRow(Bench.alike(8), 0, 7, 0), 20160, x -> x.orders(0, 1));
        Bench.asks("half of them, told twice", Bench.withRow(Bench.alike(8), 0, 7, 0, 7, 0), 20160, x -> x.orders(0, 2));
        Bench.World chain = Bench.withRow(Bench.alike(8), 0, 0, 1, 1, 2, 2, 3, 3, 4, 4, 5, 5, 6, 6, 7);
        Bench.asks("just one", chain, 1, x -> x.orders(0, 7));
        Bench.asks("the last may be anywhere", chain, 8, x -> x.orders(0, 6));
        Bench.asks("the last two may", chain, 56, x -> x.orders(0, 5));
        Bench.asks("of two just one", Bench.withRow(Bench.alike(2), 0, 1, 0), 1, x -> x.orders(0, 1));
    }

    private static void nexts() {
        Bench.sentence(33, "NEXT: 10 times the lesser and the other; NONE: just one ORDER");
        Bench.asks("nobody", Bench.withRow(Bench.fresh(), 0), NONE, x -> x.next(0, 0));
        Bench.asks("one", Bench.withRow(Bench.alike(1), 0), NONE, x -> x.next(0, 0));
        Bench.asks("two", Bench.withRow(Bench.alike(2), 0), 1, x -> x.next(0, 0));
        Bench.asks("two, told", Bench.withRow(Bench.alike(2), 0, 1, 0), NONE, x -> x.next(0, 1));
        Bench.World chain = Bench.withRow(Bench.alike(8), 0, 0, 1, 1, 2, 2, 3, 3, 4, 4, 5, 5, 6, 6, 7);
        Bench.asks("just one ORDER", chain, NONE, x -> x.next(0, 7));
        Bench.asks("the last against the middle", chain, 37, x -> x.next(0, 6));
        Bench.asks("eight, the first by numbers", chain, 1, x -> x.next(0, 0));
        Bench.World pair = Bench.withRow(Bench.alike(8), 0, 0, 1, 1, 2, 2, 3, 3, 4, 4, 5, 5, 6, 5, 7);
        Bench.asks("the last two", pair, 67, x -> x.next(0, 7));
        Bench.sentence(33, "neither is told colder by them, one step or more");
        Bench.asks("two steps", Bench.withRow(Bench.alike(4), 0, 0, 1, 1, 2), 13, x -> x.next(0, 2));
        Bench.asks("the other way", Bench.withRow(Bench.alike(3), 0, 2, 1, 1, 0), NONE, x -> x.next(0, 2));
        Bench.sentence(33, "in the worse case fewest are left, of several the first by numbers");
        Bench.asks("2 of 3 are left by either", Bench.withRow(Bench.alike(3), 0, 0, 1), 2, x -> x.next(0, 1));
        Bench.asks("2 of 4, not 3", Bench.withRow(Bench.alike(4), 0, 1, 2, 2, 3), 2, x -> x.next(0, 2));
        Bench.asks("halves", Bench.withRow(Bench.alike(4), 0, 0, 1), 23, x -> x.next(0, 1));
    }

    private static void mayBes() {
        Bench.sentence(34, "Who may be coldest of all by ORDERS that agree (bits)");
        for (int many = 0; many <= 8; many++) {
            Bench.asks(many + " of whom nothing is told", Bench.withRow(Bench.alike(many), 0), (1 << many) - 1,
                    x -> x.mayBe(0, 0));
        }
        Bench.World star = Bench.withRow(Bench.alike(8), 0, 7, 0, 7, 1, 7, 2, 7, 3, 7, 4, 7, 5, 7, 6);
        Bench.asks("just the last", star, 128, x -> x.mayBe(0, 7));
        Bench.asks("he and one more", star, 192, x -> x.mayBe(0, 6));
        Bench.asks("all but the first", star, 254, x -> x.mayBe(0, 1));
        Bench.asks("all but the last", Bench.withRow(Bench.alike(8), 0, 0, 7), 127, x -> x.mayBe(0, 1));
        Bench.asks("just the first", Bench.withRow(Bench.alike(3), 0, 0, 1, 1, 2), 1, x -> x.mayBe(0, 2));
    }

    private static void wrongs() {
        Bench.sentence(35, "How many twos aren't so now (COLD of the one above that of the other)");
        Bench.asks("none told", Bench.withRow(Bench.crowd(), 0), 0, x -> x.wrongBowls(0, 0));
        Bench.asks("nobody, none told", Bench.withRow(Bench.fresh(), 0), 0, x -> x.wrongBowls(0, 0));
        Bench.World two = Bench.withRow(Bench.alike(2), 0, 0, 1);
        Bench.asks("alike isn't so", two, 1, x -> x.wrongBowls(0, 1));
        Bench.asks("one above", Bench.with(two, x -> x.give(1, 2, 1)), 0, x -> x.wrongBowls(0, 1));
        Bench.asks("one below", Bench.with(two, x -> x.give(0, 2, 1)), 1, x -> x.wrongBowls(0, 1));
        long[] all = new long[40];
        for (int i = 0; i < 40; i += 2) {
            all[i] = 1;
        }
        Bench.World twenty = Bench.withRow(Bench.alike(2), 0, all);
        Bench.asks("all twenty are wrong", twenty, 20, x -> x.wrongBowls(0, 20));
        Bench.asks("nineteen", twenty, 19, x -> x.wrongBowls(0, 19));
        Bench.asks("none is wrong", Bench.with(twenty, x -> x.give(0, 2, 1)), 0, x -> x.wrongBowls(0, 20));
    }

    private static void logs() {
        Bench.sentence(51, "WRONG: the first that isn't so; NONE");
        // COLDEST by DAYS: 1, then 0, as he is FED no more.
        Bench.World two = Bench.withRow(Bench.of("person 0 0 0;feed 0 3;person 1 2 0"), 0, 1, 0, 0, 1, 1);
        Bench.asks("none told", two, NONE, x -> x.judge(0, 0));
        Bench.asks("today", two, NONE, x -> x.judge(0, 1));
        Bench.asks("only the first n", two, NONE, x -> x.judge(0, 3));
        Bench.asks("the fourth", two, 3, x -> x.judge(0, 4));
        Bench.asks("the first of two", two, 3, x -> x.judge(0, 5));
        Bench.asks("the first of all", Bench.with(two, x -> x.set(0, 0, 0)), 0, x -> x.judge(0, 5));
        for (long who : new long[] {-1, 2, (1L << 32), Long.MIN_VALUE}) {
            Bench.asks("nobody such: " + who, Bench.withRow(Bench.alike(2), 3, 0, who), 1, x -> x.judge(0, 2));
        }
        Bench.World forty = Bench.with(Bench.alike(8), x -> x.row(0, 0, 40));
        Bench.asks("all forty", forty, NONE, x -> x.judge(0, 40));
        Bench.asks("the last of forty", Bench.with(forty, x -> x.set(0, 39, 1)), 39, x -> x.judge(0, 40));
        Bench.asks("all but the last", Bench.with(forty, x -> x.set(0, 39, 1)), NONE, x -> x.judge(0, 39));
        Bench.asks("the last of eight", Bench.withRow(Bench.with(Bench.alike(7), x -> x.person(2, 1, 0)), 0, 7), NONE,
                x -> x.judge(0, 1));
        // The first is FED 40 at first, and COLDEST just behind 39 DAYS.
        long[] told = new long[40];
        java.util.Arrays.fill(told, 0, 39, 1);
        Bench.World late = Bench.withRow(Bench.of("person 2 1 0;person 0 0 0;feed 0 40;air 0"), 0, told);
        Bench.asks("DAY by DAY", late, NONE, x -> x.judge(0, 40));
        Bench.asks("a DAY too soon", Bench.with(late, x -> x.set(0, 38, 0)), 38, x -> x.judge(0, 40));
        Bench.asks("a DAY too late", Bench.with(late, x -> x.set(0, 39, 1)), 39, x -> x.judge(0, 40));
    }

    private static void logsOfNobody() {
        Bench.sentence(51, "who is COLDEST (NONE: nobody is there)");
        Bench.asks("NONE is so", Bench.withRow(Bench.fresh(), 0, NONE, NONE), NONE, x -> x.judge(0, 2));
        Bench.asks("0 isn't", Bench.withRow(Bench.fresh(), 0, NONE, 0), 1, x -> x.judge(0, 2));
        Bench.asks("none told", Bench.withRow(Bench.fresh(), 0), NONE, x -> x.judge(0, 0));
    }
}
