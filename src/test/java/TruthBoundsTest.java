/** The bounds of promises 36, 37 and 52 to 57: TURNS, ODDS, DAYS in truth and by draws, what is kept, and status. */
public final class TruthBoundsTest {
    private static final int NONE = Bench.NONE;

    public static void main(String[] args) {
        turns();
        turnsOfFed();
        odds();
        oddsOfDays();
        days();
        drawn();
        drawsNobody();
        drawsNoSign();
        drawnFed();
        seed();
        image();
        back();
        backAndShelves();
        status();
        refusals();
        Bench.end();
    }

    private static void turns() {
        Bench.sentence(36, "TURNS, n of them (0 to 4): whether (1, 0). BAD");
        Bench.range("n", Bench.crowd(), 0, 4, (x, v) -> x.byTurns(v));
        Bench.range("n, nobody", Bench.fresh(), 0, 4, (x, v) -> x.byTurns(v));
        Bench.range("n, eight", Bench.alike(8), 0, 4, (x, v) -> x.byTurns(v));
        for (int n = 0; n <= 4; n++) {
            int many = n;
            Bench.asks("nobody", Bench.fresh(), 0, x -> x.byTurns(many));
            Bench.asks("eight who SPEAK by far", Bench.with(Bench.alike(8), x -> x.tell(0, 0)), 1, x -> x.byTurns(many));
            Bench.asks("eight who are silent by far", Bench.with(Bench.alike(8), x -> x.tell(0, 40)), 0, x -> x.byTurns(many));
        }
    }

    /** One alone, LIMIT 15: what comes of so many turns. */
    private static void turnsOf(String what, int air, int fed, int... want) {
        Bench.World world = Bench.of("person 0 0 5;fall 0;air " + air + ";feed 0 " + fed);
        for (int n = 0; n < want.length; n++) {
            int many = n;
            Bench.asks(what + ", byTurns(" + n + ")", world, want[n], x -> x.byTurns(many));
        }
    }

    private static void turnsOfFed() {
        Bench.sentence(36, "feed one (40 at most) or take one (0 at least), or do nothing");
        turnsOf("COLD is LIMIT", 20, 5, 0, 1, 0, 1, 0);
        turnsOf("one above", 20, 4, 1, 1, 1, 1, 1);
        turnsOf("one below", 20, 6, 0, 0, 0, 0, 0);
        turnsOf("COLD is LIMIT, nothing to take", 25, 0, 0, 0, 0, 0, 0);
        turnsOf("COLD is LIMIT, one to take", 24, 1, 0, 1, 0, 1, 0);
        turnsOf("one above, nothing to take", 24, 0, 1, 1, 0, 1, 0);
        turnsOf("two above, nothing to take", 23, 0, 1, 1, 1, 1, 1);
        Bench.World most = Bench.of("person 2 5 0;air 0;feed 0 40");
        int[] want = {0, 1, 0, 1, 0};
        Bench.World above = Bench.of("person 2 6 0;air 0;feed 0 40");
        for (int n = 0; n <= 4; n++) {
            int many = n;
            Bench.asks("FED 40, byTurns(" + n + ")", most, want[n], x -> x.byTurns(many));
            Bench.asks("FED 40 is no help, byTurns(" + n + ")", above, 1, x -> x.byTurns(many));
        }
        Bench.sentence(36, "who begins wants that it IS SO then, the other one that it isn't");
        // Both are of COLD 20; the LOVER is silent, the other one SPEAKS once he is COLDEST.
        Bench.World lover = Bench.of("person 4 0 0;person 0 0 0;air 20");
        int[] of = {0, 1, 0, 1, 0};
        // Of two alike the first is COLDEST, so what one does the other one can only make even.
        Bench.World other = Bench.of("person 0 0 0;person 4 0 0;air 20");
        int[] ofOther = {1, 1, 1, 1, 1};
        for (int n = 0; n <= 4; n++) {
            int many = n;
            Bench.asks("byTurns(" + n + ")", lover, of[n], x -> x.byTurns(many));
            Bench.asks("byTurns(" + n + ")", other, ofOther[n], x -> x.byTurns(many));
        }
        Bench.asks("the last of eight is fed", Bench.with(Bench.alike(7), x -> x.person(2, 0, 20), x -> x.give(7, 2, 0),
                x -> x.give(0, 2, 1), x -> x.give(1, 2, 1), x -> x.give(2, 2, 1), x -> x.give(3, 2, 1),
                x -> x.give(4, 2, 1), x -> x.give(5, 2, 1), x -> x.give(6, 2, 1)), 1, x -> x.byTurns(1));
    }

    private static void odds() {
        Bench.sentence(37, "ODDS for t (0 to 5): how likely (what 0), the mean (1). BAD");
        Bench.range("t", Bench.crowd(), 0, 5, (x, v) -> x.odds(v, 0));
        Bench.range("t, the mean", Bench.crowd(), 0, 5, (x, v) -> x.odds(v, 1));
        Bench.range("what", Bench.crowd(), 0, 1, (x, v) -> x.odds(5, v));
        Bench.range("t, nobody", Bench.fresh(), 0, 5, (x, v) -> x.odds(v, 0));
        Bench.sentence(37, "of 1,000,000 (cut), how likely it IS SO on some DAY of 0 to t");
        Bench.World one = Bench.of("person 0 0 5");
        int[] likely = {0, 750000, 937500, 984375, 996093, 999023};
        for (int t = 0; t <= 5; t++) {
            int till = t;
            Bench.asks("odds(" + t + ", 0)", one, likely[t], x -> x.odds(till, 0));
            Bench.asks("nobody", Bench.fresh(), 0, x -> x.odds(till, 0));
            Bench.asks("it is so now", Bench.of("person 0 0 4"), 1000000, x -> x.odds(till, 0));
            Bench.asks("it never is", Bench.of("person 0 0 20;air 40"), 0, x -> x.odds(till, 0));
            Bench.asks("it never is, at AIR 0", Bench.of("person 1 2 14;air 0"), 0, x -> x.odds(till, 0));
            Bench.asks("it is so now, at AIR 40", Bench.of("person 2 6 0;air 40"), 1000000, x -> x.odds(till, 0));
            Bench.asks("it is so now, at AIR 0", Bench.of("person 1 1 14;air 0"), 1000000, x -> x.odds(till, 0));
        }
        // He SPEAKS behind five DAYS at the soonest, by FALL 3 on each of them.
        Bench.asks("one of 1024, cut", Bench.of("person 0 0 19"), 976, x -> x.odds(5, 0));
        Bench.asks("none of 256", Bench.of("person 0 0 19"), 0, x -> x.odds(4, 0));
        Bench.asks("none of 1024", Bench.of("person 0 0 20"), 0, x -> x.odds(5, 0));
        Bench.asks("FALL as it is told is no matter", Bench.of("person 0 0 19;fall 5"), 976, x -> x.odds(5, 0));
        Bench.asks("FALL as it is told is no matter", Bench.of("person 0 0 19;fall 0"), 976, x -> x.odds(5, 0));
    }

    private static void oddsOfDays() {
        Bench.sentence(37, "1000 times the mean of AIR behind them (cut)");
        int[] of40 = {40000, 38500, 37000, 35500, 34000, 32500};
        for (int t = 0; t <= 5; t++) {
            int till = t;
            Bench.asks("AIR 40", Bench.of("air 40"), of40[t], x -> x.odds(till, 1));
            Bench.asks("AIR 15, just not 0", Bench.of("air 15"), 15000 - 1500 * t, x -> x.odds(till, 1));
            Bench.asks("AIR 0", Bench.of("air 0"), 0, x -> x.odds(till, 1));
        }
        int[] of1 = {1000, 250, 62, 15, 3, 0};
        for (int t = 0; t <= 5; t++) {
            int till = t;
            Bench.asks("AIR 1, cut", Bench.of("air 1"), of1[t], x -> x.odds(till, 1));
        }
        Bench.asks("AIR 2: 2, 1, 0, 0", Bench.of("air 2"), 750, x -> x.odds(1, 1));
        Bench.asks("AIR 14 behind five: once 0, not -1", Bench.of("air 14"), 6500, x -> x.odds(5, 1));
        Bench.sentence(37, "FED is 1 less each DAY (0 at least)");
        Bench.asks("FED 1", Bench.of("person 0 0 5;air 24;feed 0 1"), 1000000, x -> x.odds(1, 0));
        Bench.asks("FED 1, now", Bench.of("person 0 0 5;air 24;feed 0 1"), 0, x -> x.odds(0, 0));
        Bench.asks("FED 2", Bench.of("person 0 0 5;air 24;feed 0 2"), 750000, x -> x.odds(1, 0));
        Bench.asks("FED 2, two DAYS", Bench.of("person 0 0 5;air 24;feed 0 2"), 1000000, x -> x.odds(2, 0));
        Bench.asks("FED 0 stays 0", Bench.of("person 0 0 5;air 25"), 750000, x -> x.odds(1, 0));
        Bench.asks("FED 40", Bench.of("person 2 5 0;air 0;feed 0 40"), 1000000, x -> x.odds(1, 0));
        // Now the first SPEAKS; tomorrow the other one, FED no more, is COLDEST and silent.
        Bench.World once = Bench.of("person 0 0 0;person 4 0 0;feed 1 1;air 20");
        Bench.asks("on some DAY, though not on the last", once, 1000000, x -> x.odds(5, 0));
    }

    private static void days() {
        Bench.sentence(52, "DAYS pass in truth (n 1 to 60): WINTER; NONE. BAD. (NONE isn't refused.)");
        Bench.range("n", Bench.crowd(), 1, 60, (x, v) -> x.days(v));
        Bench.range("n, nobody", Bench.fresh(), 1, 60, (x, v) -> x.days(v));
        Bench.is("nobody", Bench.fresh(), NONE, x -> x.days(60));
        Bench.is("DAY", Bench.with(Bench.fresh(), x -> x.days(60)), 60, x -> x.status(3));
        Bench.is("FALL stays", Bench.with(Bench.of("fall 5"), x -> x.days(60)), 5, x -> x.status(2));
        Bench.is("SEED stays", Bench.with(Bench.fresh(), x -> x.days(60)), 1, x -> x.status(8));
        // It IS SO behind 40 DAYS, and said on the 41st.
        Bench.World last = Bench.of("person 1 1 14;air 40");
        Bench.is("not yet", last, NONE, x -> x.days(40));
        Bench.is("just", last, 40, x -> x.days(41));
        Bench.is("it stays", last, 40, x -> x.days(60));
        Bench.is("the answer is the WINTER there was", Bench.with(last, x -> x.days(60)), 40, x -> x.days(1));
    }

    private static void drawn() {
        Bench.sentence(53, "DAYS by draws (n 1 to 60): on how many it IS SO. BAD");
        Bench.range("n", Bench.crowd(), 1, 60, (x, v) -> x.drawn(v));
        Bench.range("n, nobody", Bench.fresh(), 1, 60, (x, v) -> x.drawn(v));
        Bench.is("on all", Bench.of("person 5 0 0;air 0"), 60, x -> x.drawn(60));
        Bench.is("on just one", Bench.of("person 5 0 0;air 0"), 1, x -> x.drawn(1));
        Bench.is("on none", Bench.of("person 1 9 20"), 0, x -> x.drawn(60));
        Bench.is("WINTER", Bench.with(Bench.of("person 5 0 0;air 0;day 7"), x -> x.drawn(60)), 7, x -> x.status(5));
        Bench.is("counted, though there is WINTER", Bench.with(Bench.of("person 5 0 0;air 0"), x -> x.days(1)), 60,
                x -> x.drawn(60));
        Bench.is("AIR 0 at least", Bench.with(Bench.of("air 1"), x -> x.drawn(60)), 0, x -> x.status(1));
    }

    /** SEED behind so many DRAWS, by longs that are cut, not by ints that wrap. */
    private static int seedBehind(int seed, int draws) {
        long s = seed & 0xFFFFFFFFL;
        for (int i = 0; i < draws; i++) {
            s = (s * 1103515245L + 12345L) & 0xFFFFFFFFL;
        }
        return (int) s;
    }

    private static int draw(int seed, int draws, int below) {
        long s = seedBehind(seed, draws) & 0xFFFFFFFFL;
        return (int) ((s >> 16) % below);
    }

    private static void drawsNobody() {
        Bench.sentence(53, "(a DRAW below how many and 1: the last: nobody)");
        for (int n : new int[] {1, 2, 60}) {
            Bench.is("SEED, nobody is there", Bench.with(Bench.fresh(), x -> x.drawn(n)), seedBehind(1, 2 * n), x -> x.status(8));
            Bench.is("SEED, eight", Bench.with(Bench.alike(8), x -> x.drawn(n)), seedBehind(1, 2 * n), x -> x.status(8));
        }
        boolean[] seen = new boolean[9];
        for (int v = 0; v < 200; v++) {
            int seed = v;
            int who = draw(seed, 2, 9);
            seen[who] = true;
            ColdestSaysSo x = Bench.alike(8).make();
            for (int one = 0; one < 8; one++) {
                x.give(one, 2, 10);
            }
            x.seed(seed);
            x.drawn(1);
            for (int one = 0; one < 8; one++) {
                Bench.due("FED of " + one + " by SEED " + v, x.personOf(one, 4), one == who ? 10 : 9);
            }
        }
        for (int who = 0; who < 9; who++) {
            Bench.due("each of the eight, and nobody, was drawn", seen[who] ? 1 : 0, 1);
        }
    }

    private static void drawsNoSign() {
        Bench.sentence(53, "SEED (an int, wrapping); its upper 16 bits, no sign, modulo n; FALL becomes a DRAW below 4");
        boolean[] seen = new boolean[4];
        int below = 0;
        int[] seeds = {Bench.MIN, Bench.MAX, -1, 0, 1, 2, 3, -2, 65535, 65536, -65536, 4, 5, 6, 7, 1 << 30};
        for (int seed : seeds) {
            int fall = draw(seed, 1, 4);
            seen[fall] = true;
            below += seedBehind(seed, 1) < 0 ? 1 : 0;
            Bench.World world = Bench.with(Bench.of("person 0 0 0;person 0 0 0;air 40;fall 5;feed 0 20;feed 1 20"),
                    x -> x.seed(seed));
            Bench.World then = Bench.with(world, x -> x.drawn(1));
            Bench.is("FALL by SEED " + seed, then, fall, x -> x.status(2));
            Bench.is("AIR by SEED " + seed, then, 40 - fall, x -> x.status(1));
            Bench.is("SEED behind SEED " + seed, then, seedBehind(seed, 2), x -> x.status(8));
            int who = draw(seed, 2, 3);
            Bench.is("FED by SEED " + seed, then, who == 0 ? 20 : 19, x -> x.personOf(0, 4));
            Bench.is("FED by SEED " + seed, then, who == 1 ? 20 : 19, x -> x.personOf(1, 4));
        }
        Bench.due("some SEEDS were below 0", below > 2 ? 1 : 0, 1);
        for (int fall = 0; fall < 4; fall++) {
            Bench.due("FALL " + fall + " was drawn", seen[fall] ? 1 : 0, 1);
        }
    }

    /** A SEED by which just the first (or nobody) is fed on the first DAY, of one alone. */
    private static int seedFor(int who) {
        int seed = 0;
        while (draw(seed, 2, 2) != who) {
            seed++;
        }
        return seed;
    }

    private static void drawnFed() {
        Bench.sentence(53, "one of PEOPLE is 1 more FED (40 at most); a DAY");
        int[][] feds = {{0, 0, 0}, {1, 1, 0}, {38, 38, 37}, {39, 39, 38}, {40, 39, 39}};
        for (int[] f : feds) {
            Bench.World world = Bench.of("person 0 0 0;feed 0 " + f[0]);
            Bench.is("fed", Bench.with(world, x -> x.seed(seedFor(0)), x -> x.drawn(1)), f[1], x -> x.personOf(0, 4));
            Bench.is("not fed", Bench.with(world, x -> x.seed(seedFor(1)), x -> x.drawn(1)), f[2], x -> x.personOf(0, 4));
        }
        Bench.sentence(53, "it IS SO (ahead of the DAY), behind the chestnut");
        Bench.World edge = Bench.of("person 0 0 4");
        Bench.is("he is fed, and silent", Bench.with(edge, x -> x.seed(seedFor(0))), 0, x -> x.drawn(1));
        Bench.is("no WINTER then", Bench.with(edge, x -> x.seed(seedFor(0)), x -> x.drawn(1)), NONE, x -> x.status(5));
        Bench.is("nobody is fed, he SPEAKS", Bench.with(edge, x -> x.seed(seedFor(1))), 1, x -> x.drawn(1));
        Bench.is("WINTER then", Bench.with(edge, x -> x.seed(seedFor(1)), x -> x.drawn(1)), 0, x -> x.status(5));
        Bench.is("not behind the DAY", Bench.with(Bench.of("person 0 0 5;feed 0 1;air 24"), x -> x.seed(seedFor(1))), 0,
                x -> x.drawn(1));
    }

    private static void seed() {
        Bench.sentence(54, "SEED becomes v: the one ahead");
        Bench.is("1 at first", Bench.fresh(), 1, x -> x.seed(9));
        for (int v : new int[] {Bench.MIN, Bench.MAX, -1, 0, 1, -2, -6}) {
            Bench.is("seed(" + v + ")", Bench.fresh(), 1, x -> x.seed(v));
            Bench.is("status(8)", Bench.with(Bench.fresh(), x -> x.seed(v)), v, x -> x.status(8));
            Bench.is("the one ahead", Bench.with(Bench.fresh(), x -> x.seed(v)), v, x -> x.seed(3));
        }
    }

    private static void image() {
        Bench.sentence(55, "All is kept, but THE TAPE, SHELVES and REFUSALS: 1");
        Bench.is("of nobody", Bench.fresh(), 1, x -> x.image());
        Bench.is("of eight", Bench.alike(8), 1, x -> x.image());
        Bench.World world = Bench.with(Bench.of("person 3 9 20;feed 0 40;brandy 0 9;air 40;fall 5;day 999;coal 9"),
                x -> x.seed(Bench.MIN), x -> x.image(), x -> x.give(0, 0, 0), x -> x.give(0, 1, 0), x -> x.give(0, 2, 0),
                x -> x.tell(0, 0), x -> x.tell(1, 0), x -> x.tell(2, 0), x -> x.tell(3, 0), x -> x.seed(5),
                x -> x.person(5, 0, 0), x -> x.feed(97), x -> x.row(0, 0, 1), x -> x.set(0, 0, 3), x -> x.tell(9, 9));
        int[] before = {2, 0, 0, 0, 0, NONE, 0, 1, 5, 1};
        int[] after = {1, 40, 5, 999, 9, NONE, 40, 1, Bench.MIN, 1};
        for (int what = 0; what < before.length; what++) {
            int w = what;
            Bench.is("status(" + what + "), ahead", world, before[what], x -> x.status(w));
            Bench.is("status(" + what + ")", Bench.with(world, x -> x.back()), after[what], x -> x.status(w));
        }
        int[] one = {3, 9, 20, 9, 40};
        for (int what = 0; what < one.length; what++) {
            int w = what;
            Bench.is("personOf(0, " + what + ")", Bench.with(world, x -> x.back()), one[what], x -> x.personOf(0, w));
        }
        Bench.is("REFUSALS stay", Bench.with(world, x -> x.back()), 1, x -> x.status(12));
        Bench.is("a ROW stays", Bench.with(world, x -> x.back()), 3, x -> x.element(0, 0));
        Bench.World winter = Bench.with(Bench.of("person 5 0 0;day 3"), x -> x.days(1), x -> x.image(), x -> x.thaw());
        Bench.is("WINTER is kept", Bench.with(winter, x -> x.back()), 3, x -> x.status(5));
        Bench.World none = Bench.with(Bench.of("person 5 0 0;day 3"), x -> x.image(), x -> x.days(1));
        Bench.is("no WINTER is kept", Bench.with(none, x -> x.back()), NONE, x -> x.status(5));
        Bench.is("the later one counts", Bench.with(none, x -> x.image(), x -> x.thaw(), x -> x.back()), 3, x -> x.status(5));
        Bench.is("THE TAPE stays", Bench.with(Bench.fresh(), x -> x.image(), x -> { Bench.feedText(x, "air 9"); return 0; },
                x -> x.back()), 1, x -> x.country());
    }

    private static void back() {
        Bench.sentence(56, "All is again as it was kept: 1. STUCK: nothing was");
        Bench.refused("nothing was", Bench.fresh(), Bench.STUCK, x -> x.back());
        Bench.refused("nothing was", Bench.alike(8), Bench.STUCK, x -> x.back());
        Bench.is("once", Bench.with(Bench.fresh(), x -> x.image()), 1, x -> x.back());
        Bench.World twice = Bench.with(Bench.fresh(), x -> x.image(), x -> x.back(), x -> x.tell(0, 3));
        Bench.is("twice", twice, 1, x -> x.back());
        Bench.is("twice, AIR", Bench.with(twice, x -> x.back()), 25, x -> x.status(1));
        Bench.is("what is kept isn't changed", Bench.with(twice, x -> x.person(0, 0, 0), x -> x.days(9), x -> x.back()), 0,
                x -> x.status(0));
        Bench.is("from eight to nobody", Bench.with(Bench.fresh(), x -> x.image(), x -> x.person(0, 0, 0),
                x -> x.person(0, 0, 0), x -> x.back()), NONE, x -> x.coldest());
        Bench.is("from eight to seven, there is room", Bench.with(Bench.alike(7), x -> x.image(), x -> x.person(0, 0, 0),
                x -> x.back()), 7, x -> x.person(0, 0, 0));
        Bench.World lovers = Bench.with(Bench.of("person 4 0 0"), x -> x.image(), x -> x.person(4, 0, 0));
        Bench.is("LOVERS, two", lovers, 5, x -> x.personOf(0, 5));
        Bench.is("LOVERS, one again", Bench.with(lovers, x -> x.back()), 15, x -> x.personOf(0, 5));
    }

    private static void backAndShelves() {
        Bench.sentence(56, "(SHELVES with PEOPLE hold those of the same numbers, or NOTHING)");
        Bench.World world = Bench.with(Bench.of("person 0 0 7;person 0 0 8"), x -> x.image(), x -> x.person(0, 0, 9),
                x -> x.give(1, 0, 3), x -> x.show(0, 0), x -> x.show(1, 1), x -> x.show(2, 2), x -> x.show(7, 2));
        int[] want = {10, 11, NONE, NONE, NONE, NONE, NONE, NONE};
        for (int s = 0; s < 8; s++) {
            int at = s;
            Bench.is("holds(" + s + ")", Bench.with(world, x -> x.back()), want[s], x -> x.holds(at));
        }
        for (int s = 0; s < 8; s++) {
            int at = s;
            Bench.World gone = Bench.with(Bench.fresh(), x -> x.image(), x -> x.person(0, 0, 0), x -> x.show(at, 0));
            Bench.is("holds(" + s + ")", gone, 10, x -> x.holds(at));
            Bench.is("holds(" + s + ") then", Bench.with(gone, x -> x.back()), NONE, x -> x.holds(at));
        }
        Bench.is("SHELVES in use", world, 4, x -> x.status(9));
        Bench.is("SHELVES in use then", Bench.with(world, x -> x.back()), 2, x -> x.status(9));
        Bench.is("as he was kept", Bench.with(world, x -> x.back()), 8, x -> x.says(1, 0));
        Bench.is("NOTHING stays NOTHING", Bench.with(world, x -> x.back(), x -> x.person(0, 0, 9)), NONE, x -> x.holds(2));
        Bench.refused("NOTHING", Bench.with(world, x -> x.back()), Bench.NOTHING, x -> x.says(2, 0));
    }

    private static void status() {
        Bench.sentence(57, "NONE another what");
        for (int what : new int[] {-1, 10, 11, 17, 18, -2, Bench.MIN, Bench.MIN + 12, Bench.MAX, Bench.MIN + 11}) {
            Bench.asks("status(" + what + ")", Bench.crowd(), NONE, x -> x.status(what));
        }
        Bench.sentence(57, "all FED together (6)");
        Bench.World all = Bench.alike(8);
        for (int i = 0; i < 8; i++) {
            int one = i;
            all = Bench.with(all, x -> x.give(one, 2, 40));
        }
        Bench.asks("the most", all, 320, x -> x.status(6));
        Bench.asks("nobody", Bench.fresh(), 0, x -> x.status(6));
        Bench.sentence(57, "PEOPLE (0) to SHELVES that hold something (9)");
        int[] want = {6, 24, 2, 77, 2, NONE, 3, 12, 1, 3};
        for (int what = 0; what < want.length; what++) {
            int w = what;
            Bench.asks("status(" + what + ")", Bench.crowd(), want[what], x -> x.status(w));
        }
    }

    private static void refusals() {
        Bench.sentence(57, "12 to 16: REFUSALS -2 to -6");
        ColdestSaysSo x = Bench.alike(8).make();
        x.person(0, 0, 0);
        x.show(0, 0);
        int[] want = {0, 0, 0, 0, 1};
        for (int round = 0; round < 3; round++) {
            for (int i = 0; i < 5; i++) {
                Bench.due("status(" + (12 + i) + ")", x.status(12 + i), want[i]);
            }
            Bench.due("BAD", x.tell(4, 0), Bench.BAD);
            Bench.due("BAD, by a FAULT", x.country(), -20);
            Bench.due("OTHER", x.set(0, 0, 0), Bench.OTHER);
            Bench.due("NOTHING", x.set(1, 0, 0), Bench.NOTHING);
            Bench.due("STUCK", x.back(), Bench.STUCK);
            Bench.due("FULL", x.person(0, 0, 0), Bench.FULL);
            want[0] += 2;
            for (int i = 1; i < 5; i++) {
                want[i]++;
            }
        }
        Bench.sentence(57, "REFUSALS aren't kept, nor do they come again");
        x.image();
        x.tell(4, 0);
        x.back();
        Bench.due("BAD", x.status(12), 7);
    }
}
