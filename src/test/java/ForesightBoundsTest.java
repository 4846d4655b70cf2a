/** The bounds of promises 22 to 30 and 38 to 50: what would come, by one, by all, by AIR, BRANDY, FALL and FED. */
public final class ForesightBoundsTest {
    private static final int NONE = Bench.NONE;
    private static final int ALL_PRIDES = (1 << 21) - 1;

    public static void main(String[] args) {
        when();
        ahead();
        later();
        feeds();
        feedsWhom();
        warm();
        out();
        prides();
        pridesOfKinds();
        kinds();
        airs();
        warmest();
        brandyFor();
        fallFor();
        holdsOut();
        toughest();
        sums();
        quiet();
        second();
        gap();
        bites();
        all();
        ofKind();
        Bench.end();
    }

    /** A PERSON whose COLD and LIMIT are both 15; it IS SO behind one DAY. */
    private static Bench.World single() {
        return Bench.of("person 0 0 5");
    }

    private static void when() {
        Bench.sentence(22, "WHEN (what 0; NONE), WHO (1; NONE). BAD. (NONE isn't refused.)");
        Bench.range("what", Bench.crowd(), 0, 1, (x, v) -> x.when(v));
        Bench.range("what, nobody", Bench.fresh(), 0, 1, (x, v) -> x.when(v));
        Bench.asks("WHEN", Bench.crowd(), 6, x -> x.when(0));
        Bench.asks("WHO", Bench.crowd(), 4, x -> x.when(1));
        Bench.asks("WHO, the last of eight", Bench.with(Bench.alike(7), x -> x.person(2, 1, 0)), 7, x -> x.when(1));
        // Now both have COLD 10, and the first is silent; tomorrow the other one is colder.
        Bench.World tomorrow = Bench.of("person 2 0 20;person 2 9 4;feed 1 9;air 30;fall 0");
        Bench.asks("WHEN, by another one than now", tomorrow, 1, x -> x.when(0));
        Bench.asks("WHO, another one than now", tomorrow, 1, x -> x.when(1));
    }

    private static void ahead() {
        Bench.sentence(23, "Behind n DAYS (0 to 200): AIR (0), COLDEST (1; NONE), COLD of COLDEST (2; 0: nobody). BAD");
        Bench.range("n", Bench.crowd(), 0, 200, (x, v) -> x.ahead(v, 0));
        Bench.range("what", Bench.crowd(), 0, 2, (x, v) -> x.ahead(200, v));
        Bench.range("n, nobody", Bench.fresh(), 0, 200, (x, v) -> x.ahead(v, 1));
        Bench.World cooling = Bench.of("air 40;fall 1");
        int[][] airs = {{0, 40}, {1, 39}, {39, 1}, {40, 0}, {41, 0}, {200, 0}};
        for (int[] a : airs) {
            Bench.asks("AIR behind " + a[0], cooling, a[1], x -> x.ahead(a[0], 0));
            Bench.asks("nobody is COLDEST", cooling, NONE, x -> x.ahead(a[0], 1));
            Bench.asks("COLD of nobody", cooling, 0, x -> x.ahead(a[0], 2));
        }
        Bench.asks("FALL 0", Bench.of("air 40;fall 0"), 40, x -> x.ahead(200, 0));
        Bench.asks("FALL 5, the last above 0", Bench.of("air 40;fall 5"), 5, x -> x.ahead(7, 0));
        Bench.asks("FALL 5, just 0", Bench.of("air 40;fall 5"), 0, x -> x.ahead(8, 0));
        Bench.asks("FALL 5, not below", Bench.of("air 39;fall 5"), 0, x -> x.ahead(8, 0));
        Bench.World two = Bench.of("person 0 0 0;person 1 2 0;feed 0 3");
        Bench.asks("COLDEST now", two, 1, x -> x.ahead(0, 1));
        Bench.asks("alike: the first", two, 0, x -> x.ahead(1, 1));
        Bench.asks("its COLD now", two, 13, x -> x.ahead(0, 2));
        Bench.asks("its COLD then", two, 14, x -> x.ahead(1, 2));
        Bench.asks("its COLD far ahead", two, 40, x -> x.ahead(200, 2));
        Bench.asks("DAYS beyond 999", Bench.with(two, x -> x.tell(2, 999)), 14, x -> x.ahead(1, 2));
    }

    private static void later() {
        Bench.sentence(24, "COLD of one behind n DAYS (0 to 200). BAD");
        Bench.range("person", Bench.crowd(), 0, 5, (x, v) -> x.later(v, 0));
        Bench.range("person of eight", Bench.alike(8), 0, 7, (x, v) -> x.later(v, 0));
        Bench.range("n", Bench.crowd(), 0, 200, (x, v) -> x.later(5, v));
        Bench.outside("nobody is there", Bench.fresh(), Bench.BAD, 0, -1, (x, v) -> x.later(v, 0));
        Bench.World fed = Bench.of("person 0 0 0;feed 0 40;air 0");
        int[][] colds = {{0, 0}, {1, 1}, {39, 39}, {40, 40}, {41, 40}, {200, 40}};
        for (int[] c : colds) {
            Bench.asks("COLD behind " + c[0], fed, c[1], x -> x.later(0, c[0]));
        }
        Bench.asks("0 at least", Bench.of("person 0 0 0;feed 0 40;air 40;fall 0"), 0, x -> x.later(0, 200));
    }

    private static void feeds() {
        Bench.sentence(25, "FEED till t (0 to 60): how much (0), whom (1; NONE), COST (2); NONE. BAD; STUCK: nobody is there");
        Bench.range("t", Bench.crowd(), 0, 60, (x, v) -> x.feeds(v, 0));
        Bench.range("what", Bench.crowd(), 0, 2, (x, v) -> x.feeds(0, v));
        for (int what = 0; what <= 2; what++) {
            int w = what;
            Bench.refused("nobody", Bench.fresh(), Bench.STUCK, x -> x.feeds(0, w));
            Bench.refused("nobody", Bench.fresh(), Bench.STUCK, x -> x.feeds(60, w));
        }
        Bench.outside("t ahead of STUCK", Bench.fresh(), Bench.BAD, 0, 60, (x, v) -> x.feeds(v, 0));
        Bench.outside("what ahead of STUCK", Bench.fresh(), Bench.BAD, 0, 2, (x, v) -> x.feeds(0, v));

        // AIR 25, LIMIT 15: it is later than t by 2 t FED, which is 2 at least and 40 at most.
        Bench.World world = Bench.with(single(), x -> x.tell(3, 9));
        int[][] much = {{0, 0, NONE, 0}, {1, 2, 0, 18}, {2, 4, 0, 36}, {20, 40, 0, 360}, {21, NONE, NONE, NONE},
            {60, NONE, NONE, NONE}};
        for (int[] m : much) {
            for (int what = 0; what <= 2; what++) {
                int w = what;
                Bench.asks("feeds(" + m[0] + ", " + what + ")", world, m[1 + what], x -> x.feeds(m[0], w));
            }
        }
        Bench.sentence(25, "the least FED more (1 to 40; 40 at most)");
        Bench.asks("1 is least", Bench.of("person 0 0 5;air 24;fall 0"), 1, x -> x.feeds(0, 0));
        Bench.asks("one more, to 40 in all", Bench.of("person 0 0 5;air 0;feed 0 39"), 1, x -> x.feeds(15, 0));
        Bench.asks("none more than 40", Bench.of("person 0 0 5;air 0;feed 0 40"), NONE, x -> x.feeds(16, 0));
        Bench.asks("it is later already", Bench.of("person 0 0 5;air 0;feed 0 40"), 0, x -> x.feeds(15, 0));
        Bench.asks("COST by COAL 0", Bench.with(world, x -> x.tell(3, 0)), 0, x -> x.feeds(20, 2));
        Bench.asks("NONE by COAL 0", Bench.with(world, x -> x.tell(3, 0)), NONE, x -> x.feeds(21, 2));
    }

    private static void feedsWhom() {
        Bench.sentence(25, "WHEN is later than t (NONE is); whom, of several the first; 0, NONE: it is so now");
        Bench.asks("NONE is later, how much", Bench.of("person 0 0 20;air 40;fall 0"), 0, x -> x.feeds(60, 0));
        Bench.asks("NONE is later, whom", Bench.of("person 0 0 20;air 40;fall 0"), NONE, x -> x.feeds(60, 1));
        // Feeding one of two alike leaves the other; feeding the silent one's rival makes him coldest.
        Bench.asks("two alike SPEAK", Bench.of("person 0 0 5;person 0 0 5;air 24"), NONE, x -> x.feeds(0, 0));
        Bench.World rival = Bench.of("person 5 0 0;person 0 0 20;air 20;fall 0");
        Bench.asks("till another one is coldest", rival, 6, x -> x.feeds(0, 0));
        Bench.asks("till then for ever", Bench.of("person 5 0 0;person 2 6 20;air 20;fall 0;feed 1 2"), 2, x -> x.feeds(0, 0));
        Bench.World pair = Bench.of("person 0 0 0;person 0 0 20;air 24;fall 0");
        Bench.asks("the first of two, alike", pair, 0, x -> x.feeds(0, 1));
        Bench.asks("the first of two, how much", pair, 1, x -> x.feeds(0, 0));
        Bench.World last = Bench.with(Bench.of("person 0 0 20"), x -> x.person(0, 0, 20), x -> x.person(0, 0, 20),
                x -> x.person(0, 0, 20), x -> x.person(0, 0, 20), x -> x.person(0, 0, 20), x -> x.person(0, 0, 20),
                x -> x.person(2, 1, 0), x -> x.tell(1, 0));
        Bench.asks("the last of eight", last, 7, x -> x.feeds(0, 1));
        Bench.asks("the last of eight, how much", last, 1, x -> x.feeds(0, 0));
        Bench.asks("who SPEAKS, not who is first", Bench.of("person 2 0 20;person 2 3 13;fall 0;feed 0 3;air 20"), 1,
                x -> x.feeds(0, 1));
    }

    private static void warm() {
        Bench.sentence(26, "WARM for t (0 to 60): the set; NONE. BAD. (NONE isn't refused.)");
        Bench.range("t", Bench.crowd(), 0, 60, (x, v) -> x.warm(v));
        Bench.range("t, nobody", Bench.fresh(), 0, 60, (x, v) -> x.warm(v));
        Bench.asks("nobody", Bench.fresh(), NONE, x -> x.warm(0));
        Bench.asks("nobody", Bench.fresh(), NONE, x -> x.warm(60));
        Bench.sentence(26, "by which WHEN is just t");
        Bench.asks("one DAY too soon", single(), NONE, x -> x.warm(0));
        Bench.asks("just without", single(), 0, x -> x.warm(1));
        Bench.asks("one DAY too late", single(), NONE, x -> x.warm(2));
        Bench.asks("just with", single(), 1, x -> x.warm(11));
        Bench.asks("one less than with", single(), NONE, x -> x.warm(10));
        Bench.asks("one more than with", single(), NONE, x -> x.warm(12));
        Bench.sentence(26, "each 20 more FED (40 at most)");
        int[][] feds = {{19, 15}, {20, 16}, {21, 16}, {40, 16}};
        for (int[] f : feds) {
            Bench.World world = Bench.of("person 0 0 5;air 0;feed 0 " + f[0]);
            int without = Math.max(0, f[0] - 24);
            Bench.asks("FED " + f[0], world, f[1] == without ? 0 : 1, x -> x.warm(f[1]));
        }
        Bench.sentence(26, "the fewest PEOPLE (of several sets the least as bits)");
        Bench.World four = Bench.of("person 2 9 20;person 2 9 20;person 0 0 20;person 5 0 0;fall 0");
        Bench.asks("two, not three", four, 3, x -> x.warm(0));
        Bench.asks("all eight", Bench.with(Bench.alike(8), x -> x.tell(1, 0), x -> x.tell(0, 29)), 0, x -> x.warm(0));
        Bench.asks("all eight", Bench.with(Bench.alike(8), x -> x.tell(1, 0), x -> x.tell(0, 20)), 255, x -> x.warm(11));
        Bench.asks("the last alone", Bench.with(Bench.of("person 0 0 0"), x -> x.person(0, 0, 0), x -> x.person(2, 9, 20),
                x -> x.tell(1, 0)), 4, x -> x.warm(0));
        Bench.asks("just who is colder than who SPEAKS", Bench.of("person 5 0 0;person 2 0 20;person 2 6 20;fall 0;feed 1 9"), 4,
                x -> x.warm(0));
    }

    private static void out() {
        Bench.sentence(27, "OUT: latest (what 0; NONE is latest of all), soonest (what 1), the first. BAD; STUCK: nobody is there");
        Bench.range("what", Bench.crowd(), 0, 1, (x, v) -> x.out(v));
        Bench.refused("nobody", Bench.fresh(), Bench.STUCK, x -> x.out(0));
        Bench.refused("nobody", Bench.fresh(), Bench.STUCK, x -> x.out(1));
        Bench.outside("what ahead of STUCK", Bench.fresh(), Bench.BAD, 0, 1, (x, v) -> x.out(v));
        Bench.asks("one alone", single(), 0, x -> x.out(0));
        Bench.asks("one alone", single(), 0, x -> x.out(1));
        Bench.asks("eight alike", Bench.alike(8), 0, x -> x.out(0));
        Bench.asks("eight alike", Bench.alike(8), 0, x -> x.out(1));
        // Without the last one nobody ever SPEAKS.
        Bench.World never = Bench.of("person 1 9 20;person 1 9 20;person 5 0 0");
        Bench.asks("NONE is latest of all", never, 2, x -> x.out(0));
        Bench.asks("NONE isn't soonest", never, 0, x -> x.out(1));
        // Without the first it IS SO behind 2 DAYS, without the other behind 1.
        Bench.World days = Bench.of("person 0 0 5;person 2 1 12");
        Bench.asks("the latest by one DAY", days, 0, x -> x.out(0));
        Bench.asks("the soonest by one DAY", days, 1, x -> x.out(1));
        Bench.sentence(27, "the one without whom (as if he weren't there)");
        Bench.World lovers = Bench.of("air 10;fall 0;person 4 9 0;person 4 0 0;person 0 0 20");
        Bench.asks("a LOVER alone is colder", lovers, 1, x -> x.out(1));
        Bench.asks("the last of eight", Bench.with(Bench.alike(7), x -> x.person(2, 1, 20), x -> x.tell(1, 0)), 7,
                x -> x.out(1));
    }

    private static void prides() {
        Bench.sentence(28, "BAD SHELF, n, person; OTHER; NOTHING; BAD: fewer elements; STUCK: no AIR, or neither 1 nor 0");
        Bench.World world = Bench.with(Bench.crowd(), x -> x.row(7, 1, 40), x -> x.set(0, 39, 0));
        Bench.range("SHELF", world, 0, 7, (x, v) -> x.prides(v, 0, 0));
        Bench.range("n", world, 0, 20, (x, v) -> x.prides(0, v, 0));
        Bench.range("person", world, 0, 5, (x, v) -> x.prides(0, 1, v));
        for (int s : new int[] {Bench.ONE, Bench.BARE}) {
            int want = s == Bench.ONE ? Bench.OTHER : Bench.NOTHING;
            Bench.outside("n first", world, Bench.BAD, 0, 20, (x, v) -> x.prides(s, v, 0));
            Bench.outside("person first", world, Bench.BAD, 0, 5, (x, v) -> x.prides(s, 0, v));
            Bench.refused("no ROW", world, want, x -> x.prides(s, 0, 0));
            Bench.refused("no ROW, ahead of fewer elements", world, want, x -> x.prides(s, 20, 0));
        }
        fewer("prides", (x, n) -> x.prides(0, n, 0));
        for (long air : new long[] {-1, 41, 1L << 32, Long.MIN_VALUE, Long.MAX_VALUE}) {
            Bench.World told = Bench.withRow(Bench.crowd(), 3, 20, 0, air, 0, 20, 0);
            Bench.is("not read yet", told, world.make().prides(0, 0, 0), x -> x.prides(0, 0, 0));
            Bench.refused("no AIR: " + air, told, Bench.STUCK, x -> x.prides(0, 2, 0));
            Bench.refused("no AIR: " + air + ", one more", told, Bench.STUCK, x -> x.prides(0, 3, 0));
            Bench.refused("fewer elements ahead of STUCK", told, Bench.BAD, x -> x.prides(0, 4, 0));
            Bench.due("ahead of it", told.make().prides(0, 1, 0) >= 0 ? 1 : 0, 1);
        }
        for (long spoke : new long[] {-1, 2, 1L << 32, (1L << 32) + 1, Long.MIN_VALUE}) {
            Bench.World told = Bench.withRow(Bench.crowd(), 3, 20, 0, 20, spoke);
            Bench.refused("neither 1 nor 0: " + spoke, told, Bench.STUCK, x -> x.prides(0, 2, 0));
            Bench.due("ahead of it", told.make().prides(0, 1, 0) >= 0 ? 1 : 0, 1);
        }
        Bench.refused("no AIR, the first", Bench.withRow(Bench.crowd(), 3, 41, 0, 20, 0), Bench.STUCK, x -> x.prides(0, 2, 0));
        Bench.refused("neither, the first", Bench.withRow(Bench.crowd(), 3, 20, 2, 20, 0), Bench.STUCK, x -> x.prides(0, 2, 0));
        Bench.World last = Bench.with(world, x -> x.set(0, 38, 41));
        Bench.refused("no AIR, the last of twenty", last, Bench.STUCK, x -> x.prides(0, 20, 0));
        Bench.due("not among nineteen", last.make().prides(0, 19, 0) >= 0 ? 1 : 0, 1);
        Bench.refused("neither, the last of twenty", Bench.with(world, x -> x.set(0, 39, 2)), Bench.STUCK,
                x -> x.prides(0, 20, 0));
        Bench.refused("though no PRIDE is left already", Bench.withRow(Bench.crowd(), 3, 40, 1, 41, 0), Bench.STUCK,
                x -> x.prides(0, 2, 0));
    }

    /** A ROW of just 2 n elements is enough; one less is not. */
    private static void fewer(String call, Bench.CallOf made) {
        for (int n : new int[] {1, 2, 20}) {
            Bench.World enough = Bench.with(Bench.crowd(), x -> x.row(0, 3, 2 * n));
            long got = made.on(enough.make(), n);
            Bench.due(call + " of just enough isn't BAD, and that", got == Bench.BAD ? 1 : 0, 0);
            Bench.World less = Bench.with(Bench.crowd(), x -> x.row(0, 3, 2 * n - 1));
            Bench.refused(call + " of one less", less, Bench.BAD, x -> made.on(x, n));
        }
        Bench.World none = Bench.with(Bench.crowd(), x -> x.row(0, 3, 0));
        Bench.due(call + " of none isn't BAD, and that", made.on(none.make(), 0) == Bench.BAD ? 1 : 0, 0);
        Bench.refused(call + " of none, one asked", none, Bench.BAD, x -> made.on(x, 1));
    }

    private static void pridesOfKinds() {
        Bench.sentence(28, "PRIDES (bits 0 to 20)");
        Bench.World one = Bench.of("person 0 0 5");
        Bench.asks("no twos", Bench.withRow(one, 1), ALL_PRIDES, x -> x.prides(0, 0, 0));
        Bench.asks("AIR 40, silent", Bench.withRow(one, 1, 40, 0), ALL_PRIDES, x -> x.prides(0, 1, 0));
        Bench.asks("AIR 40, spoke", Bench.withRow(one, 1, 40, 1), 0, x -> x.prides(0, 1, 0));
        Bench.asks("AIR 0, spoke", Bench.withRow(one, 1, 0, 1), ALL_PRIDES, x -> x.prides(0, 1, 0));
        Bench.asks("AIR 0, silent", Bench.withRow(one, 1, 0, 0), 0, x -> x.prides(0, 1, 0));
        Bench.asks("just PRIDE 20", Bench.withRow(one, 1, 10, 0), 1 << 20, x -> x.prides(0, 1, 0));
        Bench.asks("all but PRIDE 20", Bench.withRow(one, 1, 10, 1), ALL_PRIDES >> 1, x -> x.prides(0, 1, 0));
        Bench.asks("just PRIDE 0", Bench.withRow(one, 1, 29, 1), 1, x -> x.prides(0, 1, 0));
        Bench.asks("all but PRIDE 0", Bench.withRow(one, 1, 29, 0), ALL_PRIDES - 1, x -> x.prides(0, 1, 0));
        Bench.asks("at both", Bench.withRow(one, 1, 24, 1, 25, 0), 1 << 5, x -> x.prides(0, 2, 0));
        Bench.asks("what can't be", Bench.withRow(one, 1, 24, 0, 25, 1), 0, x -> x.prides(0, 2, 0));
        Bench.asks("by booleans", Bench.withRow(one, 4, 1, 1), ALL_PRIDES, x -> x.prides(0, 1, 0));
        Bench.asks("FED as it is", Bench.withRow(Bench.of("person 0 0 5;feed 0 10"), 1, 0, 0), 1 << 20, x -> x.prides(0, 1, 0));
        Bench.asks("PROUD: twice", Bench.withRow(Bench.of("person 1 0 5"), 1, 20, 1), 31, x -> x.prides(0, 1, 0));
        Bench.asks("OLD: and a", Bench.withRow(Bench.of("person 3 1 5"), 1, 20, 1), 15, x -> x.prides(0, 1, 0));
        Bench.asks("THIN", Bench.withRow(Bench.of("person 2 1 5"), 1, 34, 1), 3, x -> x.prides(0, 1, 0));
        Bench.asks("LOVER, never", Bench.withRow(Bench.of("person 4 0 5"), 1, 5, 1), 0, x -> x.prides(0, 1, 0));
        Bench.asks("LOVER, any", Bench.withRow(Bench.of("person 4 0 5"), 1, 4, 1), ALL_PRIDES, x -> x.prides(0, 1, 0));
        Bench.asks("STRANGER, never", Bench.withRow(Bench.of("person 5 0 5"), 1, 35, 1), 0, x -> x.prides(0, 1, 0));
        Bench.asks("STRANGER, any", Bench.withRow(Bench.of("person 5 0 5"), 1, 34, 1), ALL_PRIDES, x -> x.prides(0, 1, 0));
    }

    private static void kinds() {
        Bench.sentence(29, "BAD SHELF, n, person; OTHER; NOTHING; BAD: fewer elements; STUCK: no AIR");
        Bench.World world = Bench.with(Bench.crowd(), x -> x.row(7, 1, 40));
        Bench.range("SHELF", world, 0, 7, (x, v) -> x.kinds(v, 0, 0));
        Bench.range("n", world, 0, 20, (x, v) -> x.kinds(0, v, 0));
        Bench.range("person", world, 0, 5, (x, v) -> x.kinds(0, 1, v));
        for (int s : new int[] {Bench.ONE, Bench.BARE}) {
            int want = s == Bench.ONE ? Bench.OTHER : Bench.NOTHING;
            Bench.outside("n first", world, Bench.BAD, 0, 20, (x, v) -> x.kinds(s, v, 0));
            Bench.outside("person first", world, Bench.BAD, 0, 5, (x, v) -> x.kinds(s, 0, v));
            Bench.refused("no ROW", world, want, x -> x.kinds(s, 0, 0));
            Bench.refused("no ROW, ahead of fewer elements", world, want, x -> x.kinds(s, 20, 0));
        }
        fewer("kinds", (x, n) -> x.kinds(0, n, 0));
        for (long air : new long[] {-1, 41, 1L << 32, Long.MIN_VALUE, Long.MAX_VALUE}) {
            Bench.World told = Bench.withRow(Bench.crowd(), 3, 20, 0, air, 0, 20, 0);
            Bench.refused("no AIR: " + air, told, Bench.STUCK, x -> x.kinds(0, 2, 0));
            Bench.refused("no AIR: " + air + ", one more", told, Bench.STUCK, x -> x.kinds(0, 3, 0));
            Bench.refused("fewer elements ahead of STUCK", told, Bench.BAD, x -> x.kinds(0, 4, 0));
            Bench.due("ahead of it", told.make().kinds(0, 1, 0) >= 0 ? 1 : 0, 1);
        }
        Bench.refused("no AIR, the first", Bench.withRow(Bench.crowd(), 3, 41, 0, 20, 0), Bench.STUCK, x -> x.kinds(0, 2, 0));
        Bench.refused("no AIR, the last of twenty", Bench.with(world, x -> x.set(0, 38, 41)), Bench.STUCK,
                x -> x.kinds(0, 20, 0));
        Bench.refused("though no KIND is left already", Bench.withRow(Bench.crowd(), 3, 20, -1, 41, 0), Bench.STUCK,
                x -> x.kinds(0, 2, 0));
        Bench.sentence(29, "KINDS (bits) of one by a told ROW of twos (AIR, COLD)");
        Bench.World one = Bench.of("person 3 7 0;brandy 0 1;person 0 0 0");
        Bench.asks("no twos", Bench.withRow(one, 1), 63, x -> x.kinds(0, 0, 0));
        int[] colds = {20, 13, 27, 11, 27, 25};
        int[] want = {1, 2, 4 + 16, 8, 4 + 16, 32};
        for (int kind = 0; kind < 6; kind++) {
            int k = kind;
            Bench.asks("COLD of KIND " + kind, Bench.withRow(one, 1, 20, colds[k]), want[kind], x -> x.kinds(0, 1, 0));
        }
        Bench.asks("at AIR 40 all of 0", Bench.withRow(one, 1, 40, 0), 1 + 2 + 8, x -> x.kinds(0, 1, 0));
        Bench.asks("at AIR 0", Bench.withRow(one, 1, 0, 40), 1, x -> x.kinds(0, 1, 0));
        Bench.asks("all the twos agree", Bench.withRow(one, 1, 40, 0, 33, 0, 32, 1), 2, x -> x.kinds(0, 3, 0));
        Bench.asks("only the first n", Bench.withRow(one, 1, 40, 0, 33, 0, 32, 1), 2 + 8, x -> x.kinds(0, 2, 0));
        Bench.asks("each has its own AIR", Bench.withRow(one, 1, 20, 20, 10, 30, 0, 40), 1, x -> x.kinds(0, 3, 0));
        Bench.asks("the last doesn't", Bench.withRow(one, 1, 20, 20, 10, 30, 0, 41), 0, x -> x.kinds(0, 3, 0));
        Bench.asks("the first doesn't", Bench.withRow(one, 1, 20, 21, 10, 30, 0, 40), 0, x -> x.kinds(0, 3, 0));
        for (long cold : new long[] {-1, 19, 21, (1L << 32) + 20, Long.MAX_VALUE}) {
            Bench.asks("no COLD of his: " + cold, Bench.withRow(one, 3, 20, cold), 0, x -> x.kinds(0, 1, 0));
        }
        Bench.World other = Bench.with(one, x -> x.person(4, 0, 0));
        Bench.asks("with a LOVER there", Bench.withRow(other, 1, 20, 17), 16, x -> x.kinds(0, 1, 0));
        Bench.asks("with a LOVER there, THIN", Bench.withRow(other, 1, 20, 27), 4, x -> x.kinds(0, 1, 0));
        Bench.asks("of the only LOVER", Bench.withRow(other, 1, 20, 20), 1 + 2 + 4 + 8 + 16, x -> x.kinds(0, 1, 2));
        Bench.World two = Bench.with(other, x -> x.person(4, 0, 0));
        Bench.asks("of one of two LOVERS", Bench.withRow(two, 1, 20, 10), 16, x -> x.kinds(0, 1, 2));
    }

    private static void airs() {
        Bench.sentence(30, "AIRS by which one is COLDEST: how many (0), the greatest (1; NONE). BAD. (NONE isn't refused.)");
        Bench.range("person", Bench.crowd(), 0, 5, (x, v) -> x.airs(v, 0));
        Bench.range("person of eight", Bench.alike(8), 0, 7, (x, v) -> x.airs(v, 0));
        Bench.range("what", Bench.crowd(), 0, 1, (x, v) -> x.airs(0, v));
        Bench.outside("nobody is there", Bench.fresh(), Bench.BAD, 0, -1, (x, v) -> x.airs(v, 0));
        Bench.asks("all of 0 to 40", Bench.alike(1), 41, x -> x.airs(0, 0));
        Bench.asks("the greatest", Bench.alike(1), 40, x -> x.airs(0, 1));
        Bench.asks("of several the first, none", Bench.alike(2), 0, x -> x.airs(1, 0));
        Bench.asks("of several the first, NONE", Bench.alike(2), NONE, x -> x.airs(1, 1));
        // The PERSON is colder by the other's FED, at AIR 0 by one, at AIR 1 no more.
        Bench.World edge = Bench.of("person 2 9 0;person 1 0 0;feed 0 10");
        Bench.asks("in the cold, how many", edge, 31, x -> x.airs(1, 0));
        Bench.asks("in the cold, the greatest", edge, 30, x -> x.airs(1, 1));
        Bench.asks("in the warmth, how many", edge, 10, x -> x.airs(0, 0));
        Bench.asks("in the warmth, the greatest", edge, 40, x -> x.airs(0, 1));
        Bench.World zero = Bench.of("person 2 0 0;person 0 0 0;feed 0 1;feed 1 0");
        Bench.asks("all but 40", zero, 40, x -> x.airs(1, 0));
        Bench.asks("39", zero, 39, x -> x.airs(1, 1));
        Bench.asks("just 40", zero, 1, x -> x.airs(0, 0));
        Bench.World least = Bench.of("person 5 0 0;feed 0 40;person 0 0 0;feed 1 34");
        Bench.asks("just 0", least, 1, x -> x.airs(1, 0));
        Bench.asks("the greatest is 0", least, 0, x -> x.airs(1, 1));
    }

    private static void warmest() {
        Bench.sentence(38, "The greatest AIR (0 to 40), all else as it is, by which it IS SO; NONE. (NONE isn't refused.)");
        Bench.asks("40", Bench.of("person 2 6 0"), 40, x -> x.warmest());
        Bench.asks("39", Bench.of("person 2 5 0"), 39, x -> x.warmest());
        Bench.asks("1", Bench.of("person 1 0 14"), 1, x -> x.warmest());
        Bench.asks("0", Bench.of("person 1 1 14"), 0, x -> x.warmest());
        Bench.asks("never", Bench.of("person 1 2 14"), NONE, x -> x.warmest());
        Bench.asks("nobody", Bench.fresh(), NONE, x -> x.warmest());
        Bench.asks("FED as it is", Bench.of("person 2 5 0;feed 0 40"), NONE, x -> x.warmest());
        Bench.asks("who SPEAKS must be COLDEST", Bench.of("person 2 9 20;person 0 0 0"), 23, x -> x.warmest());
    }

    private static void brandyFor() {
        Bench.sentence(39, "The least BRANDY (0 to 9) of one by which it isn't so that it IS SO; NONE. BAD");
        Bench.range("person", Bench.crowd(), 0, 5, (x, v) -> x.brandyFor(v));
        Bench.range("person of eight", Bench.alike(8), 0, 7, (x, v) -> x.brandyFor(v));
        Bench.outside("nobody is there", Bench.fresh(), Bench.BAD, 0, -1, (x, v) -> x.brandyFor(v));
        Bench.asks("0", Bench.of("person 3 0 0;air 30"), 0, x -> x.brandyFor(0));
        Bench.asks("0, and far from it", Bench.of("person 3 0 0;air 40"), 0, x -> x.brandyFor(0));
        Bench.asks("0, of who drinks in vain", Bench.of("person 0 0 0;air 30"), 0, x -> x.brandyFor(0));
        Bench.asks("1", Bench.of("person 3 0 0;air 29"), 1, x -> x.brandyFor(0));
        Bench.asks("9", Bench.of("person 3 0 0;air 12"), 9, x -> x.brandyFor(0));
        Bench.asks("NONE", Bench.of("person 3 0 0;air 11"), NONE, x -> x.brandyFor(0));
        Bench.asks("0, though he has 9", Bench.of("person 3 0 0;air 30;brandy 0 9"), 0, x -> x.brandyFor(0));
        Bench.asks("9, though he has 9", Bench.of("person 3 0 0;air 12;brandy 0 9"), 9, x -> x.brandyFor(0));
        Bench.asks("for who drinks in vain", Bench.of("person 0 0 0;air 29"), NONE, x -> x.brandyFor(0));
        Bench.asks("another one SPEAKS as well", Bench.of("person 3 0 0;person 0 0 0;air 29"), NONE, x -> x.brandyFor(0));
        // By BRANDY 1 he SPEAKS yet; by 3 the other one is COLDEST and SPEAKS.
        Bench.asks("between too little and too much", Bench.of("person 3 0 3;person 0 0 0;feed 1 5;air 20"), 2,
                x -> x.brandyFor(0));
        Bench.asks("alike, the first is COLDEST", Bench.of("person 3 0 3;person 0 0 0;feed 1 4;air 20"), 2,
                x -> x.brandyFor(0));
        Bench.asks("alike, the other one is", Bench.of("person 0 0 0;person 3 0 3;feed 0 4;air 20"), NONE,
                x -> x.brandyFor(1));
    }

    private static void fallFor() {
        Bench.sentence(40, "The least FALL (0 to 5) by which WHEN is t (0 to 60) at most; NONE. BAD. (NONE isn't refused.)");
        Bench.range("t", Bench.crowd(), 0, 60, (x, v) -> x.fallFor(v));
        Bench.range("t, nobody", Bench.fresh(), 0, 60, (x, v) -> x.fallFor(v));
        Bench.asks("nobody", Bench.fresh(), NONE, x -> x.fallFor(60));
        Bench.asks("0", Bench.of("person 0 0 4;fall 5"), 0, x -> x.fallFor(0));
        Bench.asks("not now", Bench.of("person 0 0 5;fall 5"), NONE, x -> x.fallFor(0));
        Bench.asks("1", Bench.of("person 0 0 5;fall 5"), 1, x -> x.fallFor(1));
        Bench.asks("5", Bench.of("person 0 0 9;fall 0"), 5, x -> x.fallFor(1));
        Bench.asks("NONE", Bench.of("person 0 0 10;fall 0"), NONE, x -> x.fallFor(1));
        Bench.asks("just t", Bench.of("person 1 1 14;air 40"), 1, x -> x.fallFor(40));
        Bench.asks("one less than t", Bench.of("person 1 1 14;air 40"), 2, x -> x.fallFor(39));
        Bench.asks("as FED is less", Bench.of("person 0 0 4;feed 0 7"), 0, x -> x.fallFor(7));
        Bench.asks("as FED is less, not yet", Bench.of("person 0 0 4;feed 0 7"), 1, x -> x.fallFor(6));
    }

    private static void holdsOut() {
        Bench.sentence(41, "How many DAYS (0 to 60) one holds out yet: till his COLD is above LIMIT; NONE. BAD");
        Bench.range("person", Bench.crowd(), 0, 5, (x, v) -> x.holdsOut(v));
        Bench.range("person of eight", Bench.alike(8), 0, 7, (x, v) -> x.holdsOut(v));
        Bench.outside("nobody is there", Bench.fresh(), Bench.BAD, 0, -1, (x, v) -> x.holdsOut(v));
        Bench.asks("0", Bench.of("person 0 0 4"), 0, x -> x.holdsOut(0));
        Bench.asks("1", Bench.of("person 0 0 5"), 1, x -> x.holdsOut(0));
        Bench.asks("40", Bench.of("person 1 1 14;air 40"), 40, x -> x.holdsOut(0));
        Bench.asks("NONE", Bench.of("person 1 2 14;air 40"), NONE, x -> x.holdsOut(0));
        Bench.asks("by FED", Bench.of("person 1 1 14;air 0;feed 0 40"), 40, x -> x.holdsOut(0));
        Bench.asks("though another one is colder", Bench.of("person 2 9 20;person 0 0 4"), 0, x -> x.holdsOut(1));
    }

    private static void toughest() {
        Bench.sentence(42, "longest (what 0; NONE is longest), shortest (1), of several the first. BAD; STUCK: nobody is there");
        Bench.range("what", Bench.crowd(), 0, 1, (x, v) -> x.toughest(v));
        Bench.refused("nobody", Bench.fresh(), Bench.STUCK, x -> x.toughest(0));
        Bench.refused("nobody", Bench.fresh(), Bench.STUCK, x -> x.toughest(1));
        Bench.outside("what ahead of STUCK", Bench.fresh(), Bench.BAD, 0, 1, (x, v) -> x.toughest(v));
        Bench.asks("one alone", Bench.alike(1), 0, x -> x.toughest(0));
        Bench.asks("one alone", Bench.alike(1), 0, x -> x.toughest(1));
        Bench.asks("eight alike", Bench.alike(8), 0, x -> x.toughest(0));
        Bench.asks("eight alike", Bench.alike(8), 0, x -> x.toughest(1));
        // They hold out 40 DAYS, for ever, for ever, 1 DAY, 1 DAY.
        Bench.World five = Bench.of("air 40;person 1 1 14;person 1 2 14;person 1 2 14;person 2 5 0;person 2 5 0");
        Bench.asks("NONE is longest, the first", five, 1, x -> x.toughest(0));
        Bench.asks("the shortest, the first", five, 3, x -> x.toughest(1));
        Bench.World ever = Bench.of("air 40;fall 0;person 1 1 14;person 1 2 14");
        Bench.asks("NONE all", ever, 0, x -> x.toughest(0));
        Bench.asks("NONE all", ever, 0, x -> x.toughest(1));
    }

    private static void sums() {
        Bench.sentence(43, "All COLD together");
        Bench.asks("nobody", Bench.fresh(), 0, x -> x.shivering());
        Bench.asks("one", Bench.alike(1), 15, x -> x.shivering());
        Bench.asks("eight", Bench.alike(8), 120, x -> x.shivering());
        Bench.asks("eight of COLD 0", Bench.with(Bench.alike(8), x -> x.tell(0, 40)), 0, x -> x.shivering());
        Bench.World most = Bench.with(Bench.fresh(), x -> x.tell(0, 0), x -> x.person(2, 9, 0), x -> x.person(2, 9, 0),
                x -> x.person(2, 9, 0), x -> x.person(2, 9, 0), x -> x.person(2, 9, 0), x -> x.person(2, 9, 0),
                x -> x.person(2, 9, 0), x -> x.person(2, 9, 0));
        Bench.asks("the most", most, 392, x -> x.shivering());

        Bench.sentence(44, "How much more COLD COLDEST has than who comes behind him by RANK; 0: fewer than two");
        Bench.asks("nobody", Bench.fresh(), 0, x -> x.lead());
        Bench.asks("one", Bench.alike(1), 0, x -> x.lead());
        Bench.asks("two alike", Bench.alike(2), 0, x -> x.lead());
        Bench.asks("two", Bench.of("person 0 0 0;person 2 9 0"), 9, x -> x.lead());
        Bench.asks("two of eight alike, and colder", Bench.with(Bench.alike(6), x -> x.person(2, 9, 0),
                x -> x.person(2, 9, 0)), 0, x -> x.lead());
        Bench.asks("the last of eight", Bench.with(Bench.alike(7), x -> x.person(2, 9, 0)), 9, x -> x.lead());
        Bench.asks("the most", Bench.of("air 0;person 1 0 0;feed 0 40;person 2 9 0"), 49, x -> x.lead());
    }

    private static void quiet() {
        Bench.sentence(45, "How many FED more all need, each by himself (40 at most each), that none SPEAKS now; NONE");
        Bench.asks("nobody", Bench.fresh(), 0, x -> x.quiet());
        Bench.asks("just at LIMIT", Bench.of("person 0 0 5"), 0, x -> x.quiet());
        Bench.asks("one above", Bench.of("person 0 0 4"), 1, x -> x.quiet());
        Bench.asks("40", Bench.of("person 2 5 0;air 0"), 40, x -> x.quiet());
        Bench.asks("more than 40", Bench.of("person 2 6 0;air 0"), NONE, x -> x.quiet());
        Bench.asks("some already", Bench.of("person 2 5 0;air 0;feed 0 39"), 1, x -> x.quiet());
        Bench.asks("more than 40 in all", Bench.of("person 2 6 0;air 0;feed 0 40"), NONE, x -> x.quiet());
        Bench.asks("eight", Bench.alike(8), 40, x -> x.quiet());
        Bench.asks("one of eight can't", Bench.with(Bench.alike(7), x -> x.person(2, 6, 0)), NONE, x -> x.quiet());
        Bench.asks("also who isn't COLDEST", Bench.of("person 2 9 20;person 0 0 4"), 1, x -> x.quiet());
    }

    private static void second() {
        Bench.sentence(46, "Who would be COLDEST without one (as if he weren't there); NONE. BAD. (NONE isn't refused.)");
        Bench.range("person", Bench.crowd(), 0, 5, (x, v) -> x.second(v));
        Bench.range("person of eight", Bench.alike(8), 0, 7, (x, v) -> x.second(v));
        Bench.outside("nobody is there", Bench.fresh(), Bench.BAD, 0, -1, (x, v) -> x.second(v));
        Bench.asks("one alone", Bench.alike(1), NONE, x -> x.second(0));
        Bench.asks("without the first of two", Bench.alike(2), 1, x -> x.second(0));
        Bench.asks("without the other", Bench.alike(2), 0, x -> x.second(1));
        Bench.asks("of COLD 0", Bench.with(Bench.alike(2), x -> x.tell(0, 40)), 1, x -> x.second(0));
        Bench.asks("without the last of eight", Bench.with(Bench.alike(7), x -> x.person(2, 1, 0)), 0, x -> x.second(7));
        Bench.asks("without another", Bench.with(Bench.alike(7), x -> x.person(2, 1, 0)), 7, x -> x.second(0));
        Bench.World lovers = Bench.of("person 0 0 0;person 4 1 0;person 4 1 0");
        Bench.asks("a LOVER without the other", lovers, 2, x -> x.second(1));
        Bench.asks("the other without him", lovers, 1, x -> x.second(2));
        Bench.asks("two LOVERS of three", Bench.with(lovers, x -> x.person(4, 1, 0)), 0, x -> x.second(3));
    }

    private static void gap() {
        Bench.sentence(47, "How many FED more (0: none) one needs, 40 in all at most, so that he isn't COLDEST; NONE. BAD");
        Bench.range("person", Bench.crowd(), 0, 5, (x, v) -> x.gap(v));
        Bench.range("person of eight", Bench.alike(8), 0, 7, (x, v) -> x.gap(v));
        Bench.outside("nobody is there", Bench.fresh(), Bench.BAD, 0, -1, (x, v) -> x.gap(v));
        Bench.asks("one alone", Bench.alike(1), NONE, x -> x.gap(0));
        Bench.asks("0", Bench.alike(2), 0, x -> x.gap(1));
        Bench.asks("the first of two alike", Bench.alike(2), 1, x -> x.gap(0));
        Bench.asks("behind another, alike is enough", Bench.of("person 0 0 0;person 2 3 0"), 3, x -> x.gap(1));
        Bench.asks("ahead of another, it isn't", Bench.of("person 2 3 0;person 0 0 0"), 4, x -> x.gap(0));
        Bench.asks("40", Bench.of("air 0;person 0 0 0;person 0 0 0;feed 1 39"), 40, x -> x.gap(0));
        Bench.asks("more than 40", Bench.of("air 0;person 0 0 0;person 0 0 0;feed 1 40"), NONE, x -> x.gap(0));
        Bench.asks("to just 40 in all", Bench.of("air 0;person 0 0 0;person 0 0 0;feed 0 38;feed 1 39"), 2, x -> x.gap(0));
        Bench.asks("has 40, and is COLDEST", Bench.of("person 2 9 0;feed 0 40;person 1 0 0;feed 1 40"), NONE, x -> x.gap(0));
        Bench.asks("has 40, and isn't", Bench.of("person 0 0 0;feed 0 40;person 0 0 0"), 0, x -> x.gap(0));
    }

    private static void bites() {
        Bench.sentence(48, "The greatest AIR (0 to 40), all else as it is, by which one SPEAKS; NONE. BAD");
        Bench.range("person", Bench.crowd(), 0, 5, (x, v) -> x.bites(v));
        Bench.range("person of eight", Bench.alike(8), 0, 7, (x, v) -> x.bites(v));
        Bench.outside("nobody is there", Bench.fresh(), Bench.BAD, 0, -1, (x, v) -> x.bites(v));
        Bench.asks("40", Bench.of("person 2 6 0"), 40, x -> x.bites(0));
        Bench.asks("39", Bench.of("person 2 5 0"), 39, x -> x.bites(0));
        Bench.asks("1", Bench.of("person 1 0 14"), 1, x -> x.bites(0));
        Bench.asks("0", Bench.of("person 1 1 14"), 0, x -> x.bites(0));
        Bench.asks("NONE", Bench.of("person 1 2 14"), NONE, x -> x.bites(0));
        Bench.asks("though another one is colder", Bench.of("person 2 9 20;person 0 0 0"), 29, x -> x.bites(1));
    }

    private static void all() {
        Bench.sentence(49, "How many FED more (0 to 40) for each so that WHEN is later than t (0 to 60; NONE is); NONE. BAD");
        Bench.range("t", Bench.crowd(), 0, 60, (x, v) -> x.all(v));
        Bench.range("t, nobody", Bench.fresh(), 0, 60, (x, v) -> x.all(v));
        Bench.asks("nobody", Bench.fresh(), 0, x -> x.all(60));
        Bench.asks("0", single(), 0, x -> x.all(0));
        Bench.asks("just t isn't later", single(), 2, x -> x.all(1));
        Bench.asks("1", Bench.of("person 0 0 4;fall 0"), 1, x -> x.all(0));
        Bench.asks("40", single(), 40, x -> x.all(20));
        Bench.asks("NONE", single(), NONE, x -> x.all(21));
        Bench.asks("NONE is later", Bench.of("person 0 0 5;fall 0"), 0, x -> x.all(60));
        Bench.asks("as many for each", Bench.of("person 0 0 4;person 0 0 3;fall 0"), 1, x -> x.all(0));
        Bench.asks("though one is silent", Bench.with(Bench.alike(8), x -> x.tell(1, 0)), 5, x -> x.all(0));
        Bench.sentence(49, "(40 in all at most each)");
        Bench.asks("from 39 to 40 alone", Bench.of("person 0 0 5;air 0;feed 0 39"), 1, x -> x.all(15));
        Bench.asks("not from 40", Bench.of("person 0 0 5;air 0;feed 0 40"), NONE, x -> x.all(16));
        Bench.asks("one stays at 40, the other gets more", Bench.of("air 0;fall 0;person 0 0 5;person 0 0 5;feed 0 40"), 25,
                x -> x.all(0));
    }

    private static void ofKind() {
        Bench.sentence(50, "How many of the PEOPLE are of just a KIND. BAD");
        Bench.range("KIND", Bench.crowd(), 0, 5, (x, v) -> x.ofKind(v));
        Bench.range("KIND, nobody", Bench.fresh(), 0, 5, (x, v) -> x.ofKind(v));
        for (int kind = 0; kind <= 5; kind++) {
            int k = kind;
            Bench.asks("nobody", Bench.fresh(), 0, x -> x.ofKind(k));
            Bench.asks("one of each", Bench.crowd(), 1, x -> x.ofKind(k));
            Bench.asks("eight PERSONS", Bench.alike(8), k == 0 ? 8 : 0, x -> x.ofKind(k));
            Bench.asks("one more", Bench.with(Bench.crowd(), x -> x.person(k, 0, 0)), 2, x -> x.ofKind(k));
        }
    }
}
