/** The bounds that 'Terms' names: THE COUNTRY, PEOPLE, COLD, LIMIT, a DAY, and what comes of it. */
public final class TermsBoundsTest {
    private static final int PERSON = 0;
    private static final int PROUD = 1;
    private static final int THIN = 2;
    private static final int OLD = 3;
    private static final int LOVER = 4;
    private static final int STRANGER = 5;

    public static void main(String[] args) {
        country();
        people();
        coldOfPerson();
        coldOfOthers();
        coldOfLover();
        coldest();
        limits();
        speaking();
        aDay();
        aDayOfPeople();
        farthestWhen();
        shelves();
        Bench.end();
    }

    /** COLD of one alone. */
    private static int coldOf(int kind, int a, int brandy, int fed, int air) {
        ColdestSaysSo x = new ColdestSaysSo();
        x.person(kind, a, 0);
        x.give(0, 1, brandy);
        x.give(0, 2, fed);
        x.tell(0, air);
        return x.personOf(0, 5);
    }

    private static int limitOf(int kind, int a, int pride) {
        ColdestSaysSo x = new ColdestSaysSo();
        x.person(kind, a, pride);
        return x.personOf(0, 6);
    }

    private static void country() {
        String[] names = {"AIR", "FALL", "DAY", "COAL"};
        String[] words = {"air", "fall", "day", "coal"};
        int[] first = {25, 1, 0, 2};
        int[] most = {40, 5, 999, 9};
        for (int what = 0; what < 4; what++) {
            int w = what;
            Bench.sentence(0, names[what] + " (0 to " + most[what] + "; " + first[what] + " at first)");
            Bench.is("status", Bench.fresh(), first[what], x -> x.status(w + 1));
            Bench.is("tell its least", Bench.fresh(), first[what], x -> x.tell(w, 0));
            Bench.is("tell its most", Bench.fresh(), first[what], x -> x.tell(w, most[w]));
            Bench.is("its least", Bench.with(Bench.fresh(), x -> x.tell(w, 0)), 0, x -> x.status(w + 1));
            Bench.is("its most", Bench.with(Bench.fresh(), x -> x.tell(w, most[w])), most[what], x -> x.status(w + 1));
            Bench.outside("tell", Bench.crowd(), Bench.BAD, 0, most[what], (x, v) -> x.tell(w, v));
            Bench.is("read its least", Bench.of(words[what] + " 0"), 0, x -> x.status(w + 1));
            Bench.is("read its most", Bench.of(words[what] + most[what]), most[what], x -> x.status(w + 1));
            Bench.due("read one more", Bench.read(new ColdestSaysSo(), words[what] + (most[what] + 1)),
                    -20 - words[what].length());
        }
        Bench.sentence(0, "WINTER (the DAY on which it was said; none at first)");
        Bench.is("status(5)", Bench.fresh(), Bench.NONE, x -> x.status(5));
        Bench.is("on DAY 0", Bench.of("person 5 0 0"), 0, x -> x.days(1));
        Bench.is("on DAY 999", Bench.of("person 5 0 0;day 999"), 999, x -> x.days(1));
    }

    private static void people() {
        Bench.sentence(0, "PEOPLE have numbers, 0 on, 8 at most");
        ColdestSaysSo x = new ColdestSaysSo();
        for (int i = 0; i < 8; i++) {
            Bench.due("status(0)", x.status(0), i);
            Bench.due("person", x.person(0, 0, 0), i);
        }
        Bench.due("status(0)", x.status(0), 8);
        Bench.refused("the ninth", Bench.alike(8), Bench.FULL, y -> y.person(0, 0, 0));

        Bench.sentence(0, "a (0 to 9), PRIDE (0 to 20), BRANDY (0 to 9; 0 at first), FED (0 to 40; 0 at first)");
        Bench.World least = Bench.of("person 0 0 0");
        Bench.World most = Bench.of("person 5 9 20;brandy 0 9;feed 0 40");
        int[] leasts = {0, 0, 0, 0, 0};
        int[] mosts = {5, 9, 20, 9, 40};
        for (int what = 0; what < 5; what++) {
            int w = what;
            Bench.asks("personOf, least", least, leasts[what], y -> y.personOf(0, w));
            Bench.asks("personOf, most", most, mosts[what], y -> y.personOf(0, w));
        }
        Bench.range("a", Bench.crowd(), 0, 9, (y, v) -> y.person(0, v, 0));
        Bench.range("PRIDE", Bench.crowd(), 0, 20, (y, v) -> y.person(0, 0, v));
        Bench.range("PRIDE given", Bench.crowd(), 0, 20, (y, v) -> y.give(5, 0, v));
        Bench.range("BRANDY given", Bench.crowd(), 0, 9, (y, v) -> y.give(5, 1, v));
        Bench.range("FED given", Bench.crowd(), 0, 40, (y, v) -> y.give(5, 2, v));
    }

    private static void coldOfPerson() {
        Bench.sentence(0, "PERSON: 40 less AIR and FED (0 at least)");
        Bench.due("AIR 0", coldOf(PERSON, 9, 9, 0, 0), 40);
        Bench.due("AIR 39", coldOf(PERSON, 9, 9, 0, 39), 1);
        Bench.due("AIR 40", coldOf(PERSON, 9, 9, 0, 40), 0);
        Bench.due("AIR 20, FED 19", coldOf(PERSON, 9, 9, 19, 20), 1);
        Bench.due("AIR 20, FED 20", coldOf(PERSON, 9, 9, 20, 20), 0);
        Bench.due("AIR 20, FED 21", coldOf(PERSON, 9, 9, 21, 20), 0);
        Bench.due("AIR 0, FED 40", coldOf(PERSON, 9, 9, 40, 0), 0);
        Bench.due("AIR 40, FED 40", coldOf(PERSON, 9, 9, 40, 40), 0);
    }

    private static void coldOfOthers() {
        Bench.sentence(0, "PROUD: what a PERSON feels, less a (0 at least)");
        Bench.due("one above a", coldOf(PROUD, 9, 9, 0, 30), 1);
        Bench.due("just a", coldOf(PROUD, 9, 9, 0, 31), 0);
        Bench.due("one below a", coldOf(PROUD, 9, 9, 0, 32), 0);
        Bench.due("a 0", coldOf(PROUD, 0, 9, 0, 0), 40);
        Bench.due("a 9", coldOf(PROUD, 9, 9, 0, 0), 31);
        Bench.due("all at most", coldOf(PROUD, 9, 9, 40, 40), 0);

        Bench.sentence(0, "OLD: what a PROUD one feels, less twice BRANDY (0 at least)");
        Bench.due("one above it", coldOf(OLD, 9, 9, 0, 12), 1);
        Bench.due("just it", coldOf(OLD, 9, 9, 0, 13), 0);
        Bench.due("one below it", coldOf(OLD, 9, 9, 0, 14), 0);
        Bench.due("BRANDY 0", coldOf(OLD, 3, 0, 0, 0), 37);
        Bench.due("BRANDY 9", coldOf(OLD, 3, 9, 0, 0), 19);
        Bench.due("less than 0 already", coldOf(OLD, 9, 0, 40, 40), 0);

        Bench.sentence(0, "THIN: what a PERSON feels, and a more");
        Bench.due("PERSON's 0 at least first", coldOf(THIN, 9, 9, 40, 40), 9);
        Bench.due("a 0", coldOf(THIN, 0, 9, 40, 40), 0);
        Bench.due("the most", coldOf(THIN, 9, 9, 0, 0), 49);

        Bench.sentence(0, "STRANGER: what a PERSON feels, and 5 more");
        Bench.due("PERSON's 0 at least first", coldOf(STRANGER, 9, 9, 40, 40), 5);
        Bench.due("the most", coldOf(STRANGER, 9, 9, 0, 0), 45);
    }

    private static void coldOfLover() {
        Bench.sentence(0, "LOVER: what a THIN one feels, 10 less, if there is another LOVER (0 at least)");
        Bench.World alone = Bench.of("air 40;person 4 9 0;person 0 0 0;person 2 0 0");
        Bench.World two = Bench.with(alone, x -> x.person(4, 0, 0));
        Bench.World three = Bench.with(two, x -> x.person(4, 5, 0));
        Bench.asks("alone", alone, 9, x -> x.personOf(0, 5));
        Bench.asks("two, one below 10", two, 0, x -> x.personOf(0, 5));
        Bench.asks("two, just 10", Bench.with(two, x -> x.tell(0, 39)), 0, x -> x.personOf(0, 5));
        Bench.asks("two, one above 10", Bench.with(two, x -> x.tell(0, 38)), 1, x -> x.personOf(0, 5));
        Bench.asks("two, PERSON's 0 at least first", Bench.with(two, x -> x.give(0, 2, 40), x -> x.tell(0, 38)), 0,
                x -> x.personOf(0, 5));
        Bench.asks("the other of two", Bench.with(two, x -> x.tell(0, 29)), 1, x -> x.personOf(3, 5));
        Bench.asks("three: 10 less once", Bench.with(three, x -> x.tell(0, 0)), 39, x -> x.personOf(0, 5));
        Bench.asks("the third", Bench.with(three, x -> x.tell(0, 0)), 35, x -> x.personOf(4, 5));
    }

    private static void coldest() {
        Bench.sentence(0, "COLDEST: of several the first; NONE: nobody is there");
        Bench.asks("nobody", Bench.fresh(), Bench.NONE, x -> x.coldest());
        Bench.asks("one of COLD 0", Bench.of("person 0 0 0;air 40"), 0, x -> x.coldest());
        Bench.asks("eight alike", Bench.alike(8), 0, x -> x.coldest());
        Bench.asks("eight of COLD 0", Bench.with(Bench.alike(8), x -> x.tell(0, 40)), 0, x -> x.coldest());
        Bench.asks("the last of eight", Bench.with(Bench.alike(7), x -> x.person(2, 1, 0)), 7, x -> x.coldest());
        Bench.asks("the last two", Bench.with(Bench.alike(6), x -> x.person(2, 1, 0), x -> x.person(2, 1, 0)), 6,
                x -> x.coldest());
    }

    private static void limits() {
        Bench.sentence(0, "LIMIT of one");
        int[] kinds = {PERSON, PROUD, OLD, THIN, LOVER, STRANGER};
        int[] leasts = {10, 10, 10, 5, 35, 10};
        int[] withA = {10, 10, 19, 5, 35, 10};
        int[] withPride = {30, 50, 50, 25, 35, 10};
        int[] mosts = {30, 50, 59, 25, 35, 10};
        for (int i = 0; i < 6; i++) {
            Bench.due("a 0, PRIDE 0, KIND " + kinds[i], limitOf(kinds[i], 0, 0), leasts[i]);
            Bench.due("a 9, PRIDE 0, KIND " + kinds[i], limitOf(kinds[i], 9, 0), withA[i]);
            Bench.due("a 0, PRIDE 20, KIND " + kinds[i], limitOf(kinds[i], 0, 20), withPride[i]);
            Bench.due("a 9, PRIDE 20, KIND " + kinds[i], limitOf(kinds[i], 9, 20), mosts[i]);
        }
    }

    private static void speaking() {
        Bench.sentence(0, "He SPEAKS, if his COLD is above LIMIT");
        // By KIND: the AIR at which COLD is just LIMIT, with a 2 and PRIDE 3.
        int[] airs = {27, 22, 34, 20, 7, 35};
        for (int kind = 0; kind < 6; kind++) {
            int at = airs[kind];
            Bench.World world = Bench.of("person " + kind + " 2 3;air " + at);
            Bench.due("COLD is LIMIT", world.make().personOf(0, 5), world.make().personOf(0, 6));
            Bench.asks("speaks, just LIMIT, KIND " + kind, world, 0, x -> x.speaks(0));
            Bench.asks("isSo, just LIMIT, KIND " + kind, world, 0, x -> x.isSo());
            Bench.World colder = Bench.with(world, x -> x.tell(0, at - 1));
            Bench.asks("speaks, one above, KIND " + kind, colder, 1, x -> x.speaks(0));
            Bench.asks("isSo, one above, KIND " + kind, colder, 1, x -> x.isSo());
            Bench.World warmer = Bench.with(world, x -> x.tell(0, at + 1));
            Bench.asks("speaks, one below, KIND " + kind, warmer, 0, x -> x.speaks(0));
        }
        Bench.sentence(0, "It IS SO, if COLDEST SPEAKS");
        Bench.asks("nobody", Bench.fresh(), 0, x -> x.isSo());
        Bench.World silent = Bench.of("person 2 1 20;person 0 0 0");
        Bench.asks("another one SPEAKS", silent, 0, x -> x.isSo());
        Bench.asks("alike, the first is silent", Bench.of("person 0 0 20;person 0 0 0"), 0, x -> x.isSo());
        Bench.asks("alike, the first SPEAKS", Bench.of("person 0 0 0;person 0 0 20"), 1, x -> x.isSo());
    }

    private static void aDay() {
        Bench.sentence(0, "A DAY: AIR is FALL less (0 at least)");
        int[][] airs = {{4, 5, 0}, {5, 5, 0}, {6, 5, 1}, {0, 5, 0}, {0, 0, 0}, {40, 0, 40}, {1, 1, 0}, {40, 5, 35}};
        for (int[] a : airs) {
            Bench.World world = Bench.of("air " + a[0] + ";fall " + a[1]);
            Bench.is("AIR behind a DAY", Bench.with(world, x -> x.days(1)), a[2], x -> x.status(1));
            Bench.is("FALL stays", Bench.with(world, x -> x.days(1)), a[1], x -> x.status(2));
            Bench.asks("AIR ahead", world, a[2], x -> x.ahead(1, 0));
        }
        Bench.sentence(0, "A DAY: DAY 1 more (999 at most)");
        int[][] days = {{0, 1, 1}, {997, 1, 998}, {998, 1, 999}, {999, 1, 999}, {998, 2, 999}, {940, 60, 999},
            {939, 60, 999}, {938, 60, 998}};
        for (int[] d : days) {
            Bench.World world = Bench.of("day " + d[0]);
            Bench.is("DAY", Bench.with(world, x -> x.days(d[1])), d[2], x -> x.status(3));
            Bench.is("DAY by draws", Bench.with(world, x -> x.drawn(d[1])), d[2], x -> x.status(3));
        }
        Bench.sentence(0, "A DAY: if it IS SO and there is no WINTER, WINTER is DAY (the DAY ahead of it)");
        Bench.is("it IS SO", Bench.of("person 5 0 0;day 5"), 5, x -> x.days(1));
        Bench.is("it isn't yet", Bench.of("person 0 0 5;day 5"), Bench.NONE, x -> x.days(1));
        Bench.is("it is then", Bench.of("person 0 0 5;day 5"), 6, x -> x.days(2));
        Bench.is("there is WINTER", Bench.with(Bench.of("person 5 0 0;day 5"), x -> x.days(1)), 5, x -> x.days(1));
        Bench.is("also of DAY 0", Bench.with(Bench.of("person 5 0 0"), x -> x.days(1)), 0, x -> x.days(9));
        Bench.is("DAY stands at 999", Bench.of("person 0 0 5;day 998;fall 1"), 999, x -> x.days(60));
    }

    private static void aDayOfPeople() {
        Bench.sentence(0, "A DAY: FED of each 1 less (0 at least)");
        int[][] feds = {{0, 1, 0}, {1, 1, 0}, {2, 1, 1}, {40, 1, 39}, {40, 39, 1}, {40, 40, 0}, {40, 41, 0}, {40, 60, 0}};
        for (int[] f : feds) {
            Bench.World world = Bench.with(Bench.alike(8), x -> x.give(0, 2, f[0]), x -> x.give(7, 2, f[0]));
            Bench.World then = Bench.with(world, x -> x.days(f[1]));
            Bench.is("FED of the first", then, f[2], x -> x.personOf(0, 4));
            Bench.is("FED of the last", then, f[2], x -> x.personOf(7, 4));
            Bench.is("all FED", then, 2 * f[2], x -> x.status(6));
        }
        Bench.is("BRANDY stays", Bench.with(Bench.of("person 3 0 0;brandy 0 9"), x -> x.days(60)), 9, x -> x.personOf(0, 3));
        Bench.is("COAL stays", Bench.with(Bench.of("coal 9"), x -> x.days(60)), 9, x -> x.status(4));
    }

    /** From DAY 40 on nothing moves any more, so 40 is the latest that there is, and 41 to 60 are NONE. */
    private static void farthestWhen() {
        Bench.sentence(0, "WHEN: behind how many DAYS (0 to 60) it first IS SO; NONE");
        Bench.World last = Bench.of("person 1 1 14;air 40;fall 1");
        Bench.asks("by AIR, on the last DAY", last, 40, x -> x.when(0));
        Bench.asks("by FED, on the last DAY", Bench.of("person 1 1 14;air 0;feed 0 40"), 40, x -> x.when(0));
        Bench.asks("WHO then", last, 0, x -> x.when(1));
        Bench.asks("never", Bench.with(last, x -> x.give(0, 0, 15)), Bench.NONE, x -> x.when(0));
        Bench.asks("WHO never", Bench.with(last, x -> x.give(0, 0, 15)), Bench.NONE, x -> x.when(1));
        Bench.asks("one DAY sooner", Bench.with(last, x -> x.tell(0, 39)), 39, x -> x.when(0));
        Bench.asks("now", Bench.with(last, x -> x.tell(0, 0)), 0, x -> x.when(0));
        Bench.asks("tomorrow", Bench.with(last, x -> x.tell(0, 1)), 1, x -> x.when(0));
        Bench.asks("though it never cools", Bench.with(last, x -> x.tell(1, 0)), Bench.NONE, x -> x.when(0));
        Bench.asks("nobody", Bench.fresh(), Bench.NONE, x -> x.when(0));
        Bench.asks("nobody, WHO", Bench.fresh(), Bench.NONE, x -> x.when(1));
        Bench.asks("as who is coldest then is silent", Bench.of("person 2 1 20;person 0 0 5;fall 0"), Bench.NONE,
                x -> x.when(0));
        Bench.asks("WINTER or not", Bench.with(last, x -> x.days(41)), 0, x -> x.when(0));
        Bench.sentence(0, "it first IS SO, though later it isn't");
        // He SPEAKS on DAYS 0 to 2; then the silent one, FED no more, is colder.
        Bench.World first = Bench.of("person 0 0 0;person 2 3 20;feed 1 5;fall 0");
        Bench.asks("now", first, 0, x -> x.when(0));
        Bench.asks("behind two DAYS", Bench.with(first, x -> x.days(2)), 0, x -> x.when(0));
        Bench.asks("behind three", Bench.with(first, x -> x.days(3)), Bench.NONE, x -> x.when(0));
    }

    private static void shelves() {
        Bench.sentence(0, "SHELVES 0 to 7 hold NOTHING (at first)");
        for (int s = -1; s <= 8; s++) {
            int at = s;
            Bench.asks("holds(" + s + ")", Bench.fresh(), Bench.NONE, x -> x.holds(at));
        }
        Bench.asks("status(9)", Bench.fresh(), 0, x -> x.status(9));
        Bench.World all = () -> {
            ColdestSaysSo x = new ColdestSaysSo();
            x.person(0, 0, 0);
            for (int s = 0; s < 8; s++) {
                x.row(s, s % 5, s);
            }
            x.show(7, 0);
            return x;
        };
        Bench.asks("all full", all, 8, x -> x.status(9));
        Bench.asks("one emptied", Bench.with(all, x -> x.show(0, Bench.NONE)), 7, x -> x.status(9));
        Bench.asks("one emptied twice", Bench.with(all, x -> x.show(7, Bench.NONE), x -> x.show(7, Bench.NONE)), 7,
                x -> x.status(9));
    }
}
