/**
 * What the tests of bounds share. A world is made anew for each call, so that no object comes to its
 * 512th call and no test hangs on another; what a call has changed is seen by a twin that isn't called.
 */
final class Bench {
    static final int NONE = -1;
    static final int BAD = -2;
    static final int OTHER = -3;
    static final int NOTHING = -4;
    static final int STUCK = -5;
    static final int FULL = -6;
    static final int MIN = Integer.MIN_VALUE;
    static final int MAX = Integer.MAX_VALUE;

    interface World {
        ColdestSaysSo make();
    }

    interface Call {
        long on(ColdestSaysSo x);
    }

    interface CallOf {
        long on(ColdestSaysSo x, int v);
    }

    private static int wrong = 0;
    private static int checks = 0;
    private static String where = "";

    private Bench() {
    }

    /** The promise (0: Terms) whose words the checks from here on are about. */
    static void sentence(int promise, String words) {
        where = (promise == 0 ? "Terms" : "promise " + promise) + ", '" + words + "'";
    }

    static void end() {
        System.out.println(wrong == 0 ? checks + " checks of bounds are as due" : wrong + " bounds are not as due");
        if (wrong != 0) {
            System.exit(1);
        }
    }

    private static void fail(String what) {
        wrong++;
        System.out.println(where + ": " + what);
    }

    static void due(String call, long got, long want) {
        checks++;
        if (got != want) {
            fail(call + " answered " + got + ", due is " + want);
        }
    }

    // ---- Worlds

    static World fresh() {
        return ColdestSaysSo::new;
    }

    /** What a text tells, on a new object. */
    static World of(String text) {
        return () -> {
            ColdestSaysSo x = new ColdestSaysSo();
            if (read(x, text) < 1) {
                fail("the test's own text can't be read: " + text);
            }
            return x;
        };
    }

    static World with(World world, Call... calls) {
        return () -> {
            ColdestSaysSo x = world.make();
            for (Call call : calls) {
                call.on(x);
            }
            return x;
        };
    }

    /** One of each KIND, something of each sort on SHELVES 0 to 3, something kept, something on THE TAPE. */
    static World crowd() {
        return () -> {
            ColdestSaysSo x = new ColdestSaysSo();
            int[][] people = {{0, 1, 4}, {1, 2, 6}, {2, 5, 3}, {3, 3, 5}, {4, 9, 0}, {5, 0, 9}};
            x.person(people[0][0], people[0][1], people[0][2]);
            x.tell(2, 77);
            x.image();
            for (int i = 1; i < people.length; i++) {
                x.person(people[i][0], people[i][1], people[i][2]);
            }
            x.give(0, 2, 3);
            x.give(3, 1, 4);
            x.tell(0, 24);
            x.tell(1, 2);
            x.row(ROW, 1, 40);
            x.set(ROW, 1, 1);
            x.set(ROW, 39, 5);
            x.show(ONE, 2);
            x.row(SHORT_ROW, 1, 3);
            feedText(x, "air 7;fall 3");
            return x;
        };
    }

    /** What crowd() has on its SHELVES. */
    static final int ROW = 0;
    static final int ONE = 1;
    static final int BARE = 2;
    static final int SHORT_ROW = 3;

    static void feedText(ColdestSaysSo x, String text) {
        for (int i = 0; i < text.length(); i++) {
            x.feed(text.charAt(i));
        }
    }

    static int read(ColdestSaysSo x, String text) {
        feedText(x, text);
        return x.country();
    }

    static int fill(ColdestSaysSo x, int s, int sort, long... elements) {
        x.row(s, sort, elements.length);
        for (int i = 0; i < elements.length; i++) {
            x.set(s, i, elements[i]);
        }
        return 1;
    }

    static World withRow(World world, int sort, long... elements) {
        return with(world, x -> fill(x, 0, sort, elements));
    }

    /** So many PERSONS, none of whom differs from another. */
    static World alike(int many) {
        return () -> {
            ColdestSaysSo x = new ColdestSaysSo();
            for (int i = 0; i < many; i++) {
                x.person(0, 0, 0);
            }
            return x;
        };
    }

    // ---- What can be seen

    private static String country(ColdestSaysSo x) {
        StringBuilder seen = new StringBuilder();
        for (int what = 0; what <= 9; what++) {
            seen.append(x.status(what)).append(' ');
        }
        for (int one = 0; one < x.status(0); one++) {
            for (int what = 0; what <= 6; what++) {
                seen.append(x.personOf(one, what)).append(' ');
            }
        }
        return seen.toString();
    }

    private static String shelves(ColdestSaysSo x) {
        StringBuilder seen = new StringBuilder();
        for (int s = 0; s < 8; s++) {
            seen.append(x.holds(s)).append(':');
            for (int i = 0; i < 40 && x.holds(s) < 5 && x.holds(s) >= 0; i++) {
                seen.append(x.element(s, i)).append(' ');
            }
        }
        return seen.toString();
    }

    /** What THE TAPE and what was kept come to; the object is spent then. */
    private static String hidden(ColdestSaysSo x) {
        StringBuilder seen = new StringBuilder();
        seen.append(x.country()).append(' ').append(country(x)).append(x.back()).append(' ').append(country(x));
        return seen.append(x.drawn(1)).append(' ').append(x.seed(0)).toString();
    }

    private static void unchanged(String call, World world, Call made) {
        ColdestSaysSo x = world.make();
        made.on(x);
        checks++;
        if (!(country(x)).equals(country(world.make()))) {
            fail(call + " has changed THE COUNTRY");
        }
        x = world.make();
        made.on(x);
        if (!shelves(x).equals(shelves(world.make()))) {
            fail(call + " has changed SHELVES");
        }
        x = world.make();
        made.on(x);
        if (!hidden(x).equals(hidden(world.make()))) {
            fail(call + " has changed THE TAPE or what was kept");
        }
    }

    private static void refusalsDue(String call, World world, ColdestSaysSo x, int want) {
        ColdestSaysSo twin = world.make();
        for (int what = 12; what <= 16; what++) {
            int more = want == 10 - what ? 1 : 0;
            due("status(" + what + ") behind " + call, x.status(what), twin.status(what) + more);
        }
    }

    // ---- Checks

    /** The answer is due, and nothing is refused. */
    static void is(String call, World world, long want, Call made) {
        ColdestSaysSo x = world.make();
        due(call, made.on(x), want);
        refusalsDue(call, world, x, 0);
    }

    /** As is, and nothing is changed. */
    static void asks(String call, World world, long want, Call made) {
        is(call, world, want, made);
        unchanged(call, world, made);
    }

    /** The call answers the number; nothing changes but how many there were. */
    static void refused(String call, World world, int want, Call made) {
        ColdestSaysSo x = world.make();
        due(call, made.on(x), want);
        refusalsDue(call, world, x, want);
        unchanged(call, world, made);
    }

    /** Least and most may be; one less, one more and what is far outside may not. */
    static void range(String call, World world, int least, int most, CallOf made) {
        for (int v : new int[] {least, most}) {
            ColdestSaysSo x = world.make();
            long got = made.on(x, v);
            due(call + " of " + v + " isn't refused, and that", got >= BAD - 4 && got <= BAD ? 1 : 0, 0);
            refusalsDue(call + " of " + v, world, x, 0);
        }
        outside(call, world, BAD, least, most, made);
    }

    /** What is outside of the bounds is refused so. */
    static void outside(String call, World world, int want, int least, int most, CallOf made) {
        for (int v : new int[] {least - 1, most + 1, MIN, MAX}) {
            refused(call + " of " + v, world, want, x -> made.on(x, v));
        }
    }
}
