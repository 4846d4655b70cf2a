import java.util.function.ToIntFunction;

/**
 * Each refusal of each promise, in the order in which its line has them; that a refused call changes
 * nothing but how many there were; and that questions change nothing at all.
 */
public final class RefusalsTest {
    private static final int NONE = -1;
    private static final int BAD = -2;
    private static final int OTHER = -3;
    private static final int NOTHING = -4;
    private static final int STUCK = -5;
    private static final int FULL = -6;
    private static final int MIN = Integer.MIN_VALUE;
    private static final int MAX = Integer.MAX_VALUE;
    private static int wrong = 0;

    private static final int SHORTS = 0;
    private static final int ONE = 1;
    private static final int BARE = 2;
    private static final int INTS = 3;
    private static final int NO_AIR = 4;
    private static final int NO_WHETHER = 5;
    private static final int LONG_SHORTS = 6;
    private static final int CLASHING = 7;

    /** Six PEOPLE; SHELVES as their names above say; nothing kept; something on THE TAPE. */
    private static ColdestSaysSo world() {
        ColdestSaysSo x = new ColdestSaysSo();
        int[][] people = {{0, 1, 4}, {1, 2, 6}, {2, 5, 3}, {3, 3, 5}, {4, 9, 0}, {5, 0, 9}};
        for (int[] p : people) {
            x.person(p[0], p[1], p[2]);
        }
        x.give(0, 2, 3);
        x.give(3, 1, 4);
        x.row(SHORTS, 1, 6);
        x.set(SHORTS, 1, 1);
        x.set(SHORTS, 2, 2);
        x.set(SHORTS, 4, 3);
        x.show(ONE, 2);
        x.row(INTS, 2, 6);
        x.row(NO_AIR, 1, 4);
        x.set(NO_AIR, 2, 41);
        x.row(NO_WHETHER, 1, 4);
        x.set(NO_WHETHER, 3, 2);
        x.row(LONG_SHORTS, 1, 40);
        x.row(CLASHING, 1, 40);
        x.feed('a');
        return x;
    }

    private static ColdestSaysSo nobody() {
        return new ColdestSaysSo();
    }

    private static ColdestSaysSo eight() {
        ColdestSaysSo x = world();
        x.person(0, 0, 0);
        x.person(0, 0, 0);
        return x;
    }

    private static ColdestSaysSo fullTape() {
        ColdestSaysSo x = nobody();
        for (int i = 0; i < 250; i++) {
            x.feed(' ');
        }
        return x;
    }

    /** What can be seen, but REFUSALS. */
    private static String seen(ColdestSaysSo x) {
        StringBuilder seen = new StringBuilder();
        for (int what = 0; what <= 9; what++) {
            seen.append(x.status(what)).append(' ');
        }
        for (int one = 0; one < x.status(0); one++) {
            for (int what = 0; what <= 6; what++) {
                seen.append(x.personOf(one, what)).append(' ');
            }
        }
        for (int s = 0; s < 8; s++) {
            seen.append(x.holds(s)).append(' ');
            for (int i = 0; i < 6; i++) {
                seen.append(x.element(s, i)).append(' ');
            }
        }
        return seen.toString();
    }

    private static int[] refusals(ColdestSaysSo x) {
        int[] many = new int[5];
        for (int i = 0; i < 5; i++) {
            many[i] = x.status(12 + i);
        }
        return many;
    }

    private static void fail(String call, String why) {
        wrong++;
        System.out.println(call + ": " + why);
    }

    private static void refused(String call, int want, ToIntFunction<ColdestSaysSo> made) {
        refusedOn(world(), call, want, made);
    }

    private static void refusedOn(ColdestSaysSo x, String call, int want, ToIntFunction<ColdestSaysSo> made) {
        String before = seen(x);
        int[] many = refusals(x);
        int got = made.applyAsInt(x);
        if (got != want) {
            fail(call, "answered " + got + ", due is " + want);
        }
        if (!seen(x).equals(before)) {
            fail(call, "was refused, but has changed something");
        }
        int[] then = refusals(x);
        for (int i = 0; i < 5; i++) {
            int due = many[i] + (want == -2 - i ? 1 : 0);
            if (then[i] != due) {
                fail(call, "status(" + (12 + i) + ") is " + then[i] + ", due is " + due);
            }
        }
    }

    private static void asked(String call, ToIntFunction<ColdestSaysSo> made) {
        for (ColdestSaysSo x : new ColdestSaysSo[] {world(), nobody()}) {
            if (x.status(0) == 0) {
                x.row(0, 1, 6);
            }
            String before = seen(x);
            int first = made.applyAsInt(x);
            if (made.applyAsInt(x) != first) {
                fail(call, "answers otherwise when asked again");
            }
            if (!seen(x).equals(before)) {
                fail(call, "has changed something");
            }
        }
    }

    /** Refused on a number just outside its bounds, and far outside. */
    private static void bounds(String call, int most, CallOfNumber made) {
        for (int v : new int[] {-1, MIN, most + 1, MAX}) {
            refused(call + " of " + v, BAD, x -> made.call(x, v));
        }
    }

    private interface CallOfNumber {
        int call(ColdestSaysSo x, int v);
    }

    private interface CallOfRow {
        int call(ColdestSaysSo x, int s, int n);
    }

    public static void main(String[] args) {
        shelves();
        people();
        tape();
        questions();
        rowsAsked();
        truth();
        nobodyThere();
        nothingChanges();
        System.out.println(wrong == 0 ? "all refusals are as due" : wrong + " refusals are not as due");
        if (wrong != 0) {
            System.exit(1);
        }
    }

    private static void shelves() {
        bounds("row: SHELF", 7, (x, v) -> x.row(v, 0, 1));
        bounds("row: SORT", 4, (x, v) -> x.row(0, v, 1));
        bounds("row: n", 40, (x, v) -> x.row(0, 0, v));

        bounds("set: SHELF", 7, (x, v) -> x.set(v, 0, 1));
        refused("set: OTHER", OTHER, x -> x.set(ONE, 0, 1));
        refused("set: OTHER ahead of BAD i", OTHER, x -> x.set(ONE, -1, 1));
        refused("set: NOTHING", NOTHING, x -> x.set(BARE, 0, 1));
        refused("set: NOTHING ahead of BAD i", NOTHING, x -> x.set(BARE, 40, 1));
        bounds("set: i", 5, (x, v) -> x.set(SHORTS, v, 1));

        bounds("copy: SHELF p", 7, (x, v) -> x.copy(v, ONE, 0, 0, 1));
        bounds("copy: SHELF q", 7, (x, v) -> x.copy(ONE, v, 0, 0, 1));
        refused("copy: OTHER p", OTHER, x -> x.copy(ONE, SHORTS, 0, 0, 1));
        refused("copy: OTHER q", OTHER, x -> x.copy(SHORTS, ONE, 0, 0, 99));
        refused("copy: OTHER ahead of NOTHING", OTHER, x -> x.copy(BARE, ONE, 0, 0, 1));
        refused("copy: OTHER ahead of NOTHING", OTHER, x -> x.copy(ONE, BARE, 0, 0, 1));
        refused("copy: two SORTS", OTHER, x -> x.copy(SHORTS, INTS, 0, 0, 1));
        refused("copy: two SORTS ahead of BAD", OTHER, x -> x.copy(SHORTS, INTS, 0, 0, -1));
        refused("copy: NOTHING p", NOTHING, x -> x.copy(BARE, SHORTS, 0, 0, 1));
        refused("copy: NOTHING q", NOTHING, x -> x.copy(INTS, BARE, -1, 0, 1));
        refused("copy: NOTHING both", NOTHING, x -> x.copy(BARE, BARE, 0, 0, 0));
        bounds("copy: i", 5, (x, v) -> x.copy(SHORTS, LONG_SHORTS, v, 0, 1));
        bounds("copy: j", 5, (x, v) -> x.copy(LONG_SHORTS, SHORTS, 0, v, 1));
        bounds("copy: n", 6, (x, v) -> x.copy(SHORTS, LONG_SHORTS, 0, 0, v));
        bounds("copy: n", 6, (x, v) -> x.copy(LONG_SHORTS, SHORTS, 0, 0, v));
        bounds("copy: i of none", 6, (x, v) -> x.copy(SHORTS, LONG_SHORTS, v, 0, 0));
        bounds("copy: j of none", 6, (x, v) -> x.copy(LONG_SHORTS, SHORTS, 0, v, 0));

        bounds("show: SHELF", 7, (x, v) -> x.show(v, 0));
        bounds("show: SHELF, nobody", 7, (x, v) -> x.show(v, NONE));
        for (int v : new int[] {-2, MIN, 6, MAX}) {
            refused("show: " + v, BAD, x -> x.show(SHORTS, v));
        }

        bounds("says: SHELF", 7, (x, v) -> x.says(v, 0));
        bounds("says: KIND", 5, (x, v) -> x.says(ONE, v));
        bounds("says: KIND ahead of OTHER", 5, (x, v) -> x.says(SHORTS, v));
        bounds("says: KIND ahead of NOTHING", 5, (x, v) -> x.says(BARE, v));
        refused("says: a ROW", OTHER, x -> x.says(SHORTS, 0));
        refused("says: of no such KIND", OTHER, x -> x.says(ONE, 1));
        refused("says: of one above it", OTHER, x -> x.says(ONE, 4));
        refused("says: NOTHING", NOTHING, x -> x.says(BARE, 0));
    }

    private static void people() {
        bounds("person: KIND", 5, (x, v) -> x.person(v, 0, 0));
        bounds("person: a", 9, (x, v) -> x.person(0, v, 0));
        bounds("person: PRIDE", 20, (x, v) -> x.person(0, 0, v));
        refusedOn(eight(), "person: BAD ahead of FULL", BAD, x -> x.person(0, 0, 21));
        refusedOn(eight(), "person: FULL", FULL, x -> x.person(0, 0, 0));

        bounds("give: person", 5, (x, v) -> x.give(v, 0, 0));
        bounds("give: what", 2, (x, v) -> x.give(0, v, 0));
        bounds("give: PRIDE", 20, (x, v) -> x.give(0, 0, v));
        bounds("give: BRANDY", 9, (x, v) -> x.give(0, 1, v));
        bounds("give: FED", 40, (x, v) -> x.give(0, 2, v));

        bounds("tell: what", 3, (x, v) -> x.tell(v, 0));
        bounds("tell: AIR", 40, (x, v) -> x.tell(0, v));
        bounds("tell: FALL", 5, (x, v) -> x.tell(1, v));
        bounds("tell: DAY", 999, (x, v) -> x.tell(2, v));
        bounds("tell: COAL", 9, (x, v) -> x.tell(3, v));

        bounds("personOf: person", 5, (x, v) -> x.personOf(v, 0));
        bounds("personOf: what", 6, (x, v) -> x.personOf(0, v));
        bounds("speaks", 5, (x, v) -> x.speaks(v));
        bounds("rank", 5, (x, v) -> x.rank(v));
        bounds("ofKind", 5, (x, v) -> x.ofKind(v));
    }

    private static void tape() {
        bounds("feed", 255, (x, v) -> x.feed(v));
        refusedOn(fullTape(), "feed: BAD ahead of FULL", BAD, x -> x.feed(256));
        refusedOn(fullTape(), "feed: FULL", FULL, x -> x.feed(' '));
        ColdestSaysSo x = world();
        x.wipe();
        String before = seen(x);
        for (char c : "air 3;person 0 0 0;feed 6 1;day 7;coal x".toCharArray()) {
            x.feed(c);
        }
        if (x.country() != -20 - 39 || !seen(x).equals(before) || x.status(12) != 1) {
            fail("country", "a FAULT is refused as BAD, and all or nothing comes");
        }
    }

    private static void questions() {
        bounds("when", 1, (x, v) -> x.when(v));
        bounds("ahead: n", 200, (x, v) -> x.ahead(v, 0));
        bounds("ahead: what", 2, (x, v) -> x.ahead(0, v));
        bounds("later: person", 5, (x, v) -> x.later(v, 0));
        bounds("later: n", 200, (x, v) -> x.later(0, v));
        bounds("feeds: t", 60, (x, v) -> x.feeds(v, 0));
        bounds("feeds: what", 2, (x, v) -> x.feeds(0, v));
        bounds("warm", 60, (x, v) -> x.warm(v));
        bounds("out", 1, (x, v) -> x.out(v));
        bounds("airs: person", 5, (x, v) -> x.airs(v, 0));
        bounds("airs: what", 1, (x, v) -> x.airs(0, v));
        bounds("byTurns", 4, (x, v) -> x.byTurns(v));
        bounds("odds: t", 5, (x, v) -> x.odds(v, 0));
        bounds("odds: what", 1, (x, v) -> x.odds(0, v));
        bounds("brandyFor", 5, (x, v) -> x.brandyFor(v));
        bounds("fallFor", 60, (x, v) -> x.fallFor(v));
        bounds("holdsOut", 5, (x, v) -> x.holdsOut(v));
        bounds("toughest", 1, (x, v) -> x.toughest(v));
        bounds("second", 5, (x, v) -> x.second(v));
        bounds("gap", 5, (x, v) -> x.gap(v));
        bounds("bites", 5, (x, v) -> x.bites(v));
        bounds("all", 60, (x, v) -> x.all(v));
    }

    /** What all that read a ROW of so many, by ones or by twos, refuse. */
    private static void ofRow(String call, int most, int each, CallOfRow made) {
        bounds(call + ": SHELF", 7, (x, v) -> made.call(x, v, 0));
        for (int s : new int[] {SHORTS, ONE, BARE}) {
            bounds(call + ": n, in SHELF " + s, most, (x, v) -> made.call(x, s, v));
        }
        refused(call + ": OTHER", OTHER, x -> made.call(x, ONE, 0));
        refused(call + ": OTHER, and more than there are", OTHER, x -> made.call(x, ONE, most));
        refused(call + ": NOTHING", NOTHING, x -> made.call(x, BARE, 0));
        refused(call + ": NOTHING, and more than there are", NOTHING, x -> made.call(x, BARE, most));
        refused(call + ": fewer elements", BAD, x -> made.call(x, SHORTS, 6 / each + 1));
        refused(call + ": fewer elements, ahead of STUCK", BAD, x -> made.call(x, NO_AIR, 5));
    }

    private static void rowsAsked() {
        ofRow("prides", 20, 2, (x, s, n) -> x.prides(s, n, 0));
        ofRow("kinds", 20, 2, (x, s, n) -> x.kinds(s, n, 0));
        ofRow("clash", 20, 2, (x, s, n) -> x.clash(s, n));
        ofRow("orders", 20, 2, (x, s, n) -> x.orders(s, n));
        ofRow("next", 20, 2, (x, s, n) -> x.next(s, n));
        ofRow("mayBe", 20, 2, (x, s, n) -> x.mayBe(s, n));
        ofRow("wrongBowls", 20, 2, (x, s, n) -> x.wrongBowls(s, n));
        ofRow("judge", 40, 1, (x, s, n) -> x.judge(s, n));
        for (int s : new int[] {SHORTS, ONE, BARE}) {
            bounds("prides: person", 5, (x, v) -> x.prides(s, 0, v));
            bounds("kinds: person", 5, (x, v) -> x.kinds(s, 0, v));
        }
        refused("prides: no AIR", STUCK, x -> x.prides(NO_AIR, 2, 0));
        refused("prides: neither 1 nor 0", STUCK, x -> x.prides(NO_WHETHER, 2, 0));
        refused("kinds: no AIR", STUCK, x -> x.kinds(NO_AIR, 2, 0));
        asked("prides, ahead of what can't be", x -> x.prides(0, 1, 0));
        if (world().prides(NO_AIR, 1, 0) < 0 || world().prides(NO_WHETHER, 1, 0) < 0) {
            fail("prides", "only the first n twos are read");
        }
        if (world().kinds(NO_AIR, 1, 0) < 0 || world().kinds(NO_WHETHER, 2, 0) < 0) {
            fail("kinds", "only the first n twos are read, and any COLD");
        }
        refused("orders: they CLASH", STUCK, x -> x.orders(CLASHING, 20));
        refused("next: they CLASH", STUCK, x -> x.next(CLASHING, 20));
        refused("mayBe: they CLASH", STUCK, x -> x.mayBe(CLASHING, 1));
        refused("wrongBowls: they CLASH", STUCK, x -> x.wrongBowls(CLASHING, 1));
        if (world().clash(CLASHING, 1) != 0 || world().orders(CLASHING, 0) != 720) {
            fail("clash", "is told, not refused");
        }
    }

    private static void truth() {
        for (int n : new int[] {0, -1, MIN, 61, MAX}) {
            refused("days(" + n + ")", BAD, x -> x.days(n));
            refused("drawn(" + n + ")", BAD, x -> x.drawn(n));
        }
        refused("back: nothing was kept", STUCK, x -> x.back());
    }

    private static void nobodyThere() {
        refusedOn(nobody(), "feeds: nobody", STUCK, x -> x.feeds(0, 0));
        refusedOn(nobody(), "feeds: BAD ahead of STUCK", BAD, x -> x.feeds(61, 0));
        refusedOn(nobody(), "feeds: BAD ahead of STUCK", BAD, x -> x.feeds(0, 3));
        refusedOn(nobody(), "out: nobody", STUCK, x -> x.out(1));
        refusedOn(nobody(), "out: BAD ahead of STUCK", BAD, x -> x.out(2));
        refusedOn(nobody(), "toughest: nobody", STUCK, x -> x.toughest(1));
        refusedOn(nobody(), "toughest: BAD ahead of STUCK", BAD, x -> x.toughest(-1));
        refusedOn(nobody(), "rank: nobody", BAD, x -> x.rank(0));
        refusedOn(nobody(), "show: nobody such", BAD, x -> x.show(0, 0));
        ColdestSaysSo x = nobody();
        x.row(0, 1, 2);
        x.set(0, 1, 1);
        refusedOn(x, "orders: nobody such", STUCK, y -> y.orders(0, 1));
    }

    private static void nothingChanges() {
        asked("status", x -> x.status(12));
        asked("coldest", x -> x.coldest());
        asked("speaking", x -> x.speaking());
        asked("isSo", x -> x.isSo());
        asked("rank", x -> x.rank(1));
        asked("when", x -> x.when(0) + 100 * x.when(1));
        asked("ahead", x -> x.ahead(200, 0) + x.ahead(9, 1) + x.ahead(9, 2));
        asked("later", x -> x.later(3, 9));
        asked("feeds", x -> x.feeds(20, 0));
        asked("warm", x -> x.warm(20));
        asked("out", x -> x.out(0) + 10 * x.out(1));
        asked("prides", x -> x.prides(0, 1, 4));
        asked("kinds", x -> x.kinds(0, 1, 4));
        asked("airs", x -> x.airs(4, 1));
        asked("clash", x -> x.clash(0, 3));
        asked("orders", x -> x.orders(0, 1));
        asked("next", x -> x.next(0, 1));
        asked("mayBe", x -> x.mayBe(0, 1));
        asked("wrongBowls", x -> x.wrongBowls(0, 1));
        asked("byTurns", x -> x.byTurns(3));
        asked("odds", x -> x.odds(5, 0) + x.odds(5, 1));
        asked("warmest", x -> x.warmest());
        asked("brandyFor", x -> x.brandyFor(3));
        asked("fallFor", x -> x.fallFor(9));
        asked("holdsOut", x -> x.holdsOut(3));
        asked("toughest", x -> x.toughest(0));
        asked("shivering", x -> x.shivering() + x.lead() + x.quiet());
        asked("second", x -> x.second(4));
        asked("gap", x -> x.gap(4));
        asked("bites", x -> x.bites(4));
        asked("all", x -> x.all(20));
        asked("ofKind", x -> x.ofKind(4));
        asked("judge", x -> x.judge(0, 6));
        asked("image", x -> x.image());
        ColdestSaysSo x = nobody();
        int[] none = {x.coldest(), x.when(0), x.when(1), x.ahead(3, 1), x.warm(3), x.warmest(), x.fallFor(3)};
        for (int answer : none) {
            if (answer != NONE) {
                fail("nobody", "NONE is due, not " + answer);
            }
        }
        for (int many : refusals(x)) {
            if (many != 0) {
                fail("nobody", "NONE isn't refused");
            }
        }
    }
}
