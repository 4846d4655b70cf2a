/** Each promise by ordinary inputs and by the edges that the document names; answers worked out by hand. */
public final class PromisesTest {
    private static final int NONE = -1;
    private static int wrong = 0;
    private static int promise = 0;

    private static void due(String call, long got, long want) {
        if (got != want) {
            wrong++;
            System.out.println("promise " + promise + ": " + call + " answered " + got + ", due is " + want);
        }
    }

    private static int feedText(ColdestSaysSo x, String text) {
        int size = x.status(7);
        for (char c : text.toCharArray()) {
            size = x.feed(c);
        }
        return size;
    }

    private static int read(ColdestSaysSo x, String text) {
        feedText(x, text);
        return x.country();
    }

    private static ColdestSaysSo of(String text) {
        ColdestSaysSo x = new ColdestSaysSo();
        due("country() of " + text, x.country(), -20);
        due("country() of " + text, read(x, text) > 0 ? 1 : 0, 1);
        return x;
    }

    /** COLD 13, 14, 21, 5, 25, 21; LIMIT 14, 22, 8, 23, 35, 10. */
    private static ColdestSaysSo six() {
        return of("person 0 1 4;person 1 2 6;person 2 5 3;person 3 3 5;person 4 9 0;person 5 0 9;"
                + "feed 0 3;brandy 3 4;air 24;fall 2;day 8;coal 3");
    }

    /** A PERSON whose COLD and LIMIT are both 15. */
    private static ColdestSaysSo single() {
        return of("person 0 0 5");
    }

    private static void fill(ColdestSaysSo x, int s, int sort, long... elements) {
        due("row", x.row(s, sort, elements.length), 1);
        for (int i = 0; i < elements.length; i++) {
            due("set", x.set(s, i, elements[i]), 1);
        }
    }

    private static void dueRow(String call, ColdestSaysSo x, int s, long... want) {
        for (int i = 0; i < want.length; i++) {
            due(call + ", element " + i, x.element(s, i), want[i]);
        }
    }

    public static void main(String[] args) {
        newObject();
        rows();
        elements();
        copies();
        shelves();
        sayings();
        people();
        telling();
        tape();
        countries();
        countryFaults();
        ofOne();
        cold();
        clampedCold();
        whens();
        aheads();
        feeding();
        warming();
        outs();
        prides();
        kinds();
        airs();
        clashes();
        ordersAndNext();
        bowlsNow();
        turns();
        odds();
        leastAndGreatest();
        holdingOut();
        sums();
        withoutOne();
        judging();
        days();
        drawn();
        images();
        status();
        System.out.println(wrong == 0 ? "all promises hold" : wrong + " answers are not as due");
        if (wrong != 0) {
            System.exit(1);
        }
    }

    private static void newObject() {
        promise = 1;
        ColdestSaysSo x = new ColdestSaysSo();
        long[] want = {0, 25, 1, 0, 2, NONE, 0, 0, 1, 0, NONE, NONE, 0, 0, 0, 0, 0, NONE};
        for (int what = 0; what < want.length; what++) {
            due("status(" + what + ")", x.status(what), want[what]);
        }
        for (int s = -1; s <= 8; s++) {
            due("holds(" + s + ")", x.holds(s), NONE);
            due("element(" + s + ", 0)", x.element(s, 0), 0);
        }
    }

    private static void rows() {
        promise = 2;
        ColdestSaysSo x = new ColdestSaysSo();
        for (int sort = 0; sort <= 4; sort++) {
            due("row", x.row(sort, sort, 40), 1);
            due("holds", x.holds(sort), sort);
            due("set", x.set(sort, 39, 1), 1);
            due("set", x.set(sort, 40, 1), -2);
        }
        due("row", x.row(7, 3, 0), 1);
        due("holds", x.holds(7), 3);
        due("set", x.set(7, 0, 1), -2);
        due("row again", x.row(0, 2, 40), 1);
        due("a new row's element", x.element(0, 39), 0);
        due("status(9)", x.status(9), 6);
    }

    private static void elements() {
        promise = 3;
        ColdestSaysSo x = new ColdestSaysSo();
        long[] put = {0, 1, 127, 128, 200, 256, -129, 32768, 65536, 1L << 31, 1L << 32, Long.MIN_VALUE, -1};
        for (int sort = 0; sort <= 4; sort++) {
            fill(x, sort, sort, put);
        }
        for (int i = 0; i < put.length; i++) {
            due("byte of " + put[i], x.element(0, i), (byte) put[i]);
            due("short of " + put[i], x.element(1, i), (short) put[i]);
            due("int of " + put[i], x.element(2, i), (int) put[i]);
            due("long of " + put[i], x.element(3, i), put[i]);
            due("boolean of " + put[i], x.element(4, i), put[i] != 0 ? 1 : 0);
        }
        promise = 5;
        x.person(0, 0, 0);
        x.show(5, 0);
        int[][] none = {{0, -1}, {0, 13}, {-1, 0}, {8, 0}, {5, 0}, {6, 0}, {0, Integer.MAX_VALUE}, {Integer.MIN_VALUE, 0}};
        for (int[] where : none) {
            due("element(" + where[0] + ", " + where[1] + ")", x.element(where[0], where[1]), 0);
        }
        for (int what = 12; what <= 16; what++) {
            due("nothing is refused", x.status(what), 0);
        }
    }

    private static void copies() {
        promise = 4;
        ColdestSaysSo x = new ColdestSaysSo();
        fill(x, 0, 1, 1, 2, 3, 4, 5);
        due("copy up", x.copy(0, 0, 0, 1, 4), 4);
        dueRow("copy up", x, 0, 1, 1, 2, 3, 4);
        due("copy down", x.copy(0, 0, 1, 0, 4), 4);
        dueRow("copy down", x, 0, 1, 2, 3, 4, 4);
        fill(x, 1, 1, 9, 9, 9);
        due("copy across", x.copy(0, 1, 3, 1, 2), 2);
        dueRow("copy across", x, 1, 9, 4, 4);
        dueRow("copied from", x, 0, 1, 2, 3, 4, 4);
        due("copy nothing at the ends", x.copy(0, 1, 5, 3, 0), 0);
        due("copy all", x.copy(1, 0, 0, 2, 3), 3);
        dueRow("copy all", x, 0, 1, 2, 9, 4, 4);
        due("copy one too many", x.copy(1, 0, 0, 3, 3), -2);
        due("copy from behind the end", x.copy(1, 0, 4, 0, 0), -2);
        due("copy to behind the end", x.copy(1, 0, 0, 6, 0), -2);
        due("copy with a sum that wraps", x.copy(1, 0, Integer.MAX_VALUE, 0, 2), -2);
        due("copy with a length that wraps", x.copy(1, 0, 1, 0, Integer.MAX_VALUE), -2);
        dueRow("refused copies", x, 0, 1, 2, 9, 4, 4);
    }

    private static void shelves() {
        promise = 6;
        ColdestSaysSo x = six();
        due("show", x.show(0, 5), 1);
        due("holds", x.holds(0), 15);
        due("show again", x.show(0, 0), 1);
        due("holds", x.holds(0), 10);
        due("row over one", x.row(0, 4, 3), 1);
        due("holds", x.holds(0), 4);
        promise = 7;
        due("show over a row", x.show(0, 2), 1);
        due("holds", x.holds(0), 12);
        due("element", x.element(0, 0), 0);
        due("status(9)", x.status(9), 1);
        due("show nobody", x.show(0, NONE), 1);
        due("holds", x.holds(0), NONE);
        due("status(9)", x.status(9), 0);
        due("show nobody where nothing is", x.show(7, NONE), 1);
    }

    private static void sayings() {
        promise = 8;
        ColdestSaysSo x = six();
        int[] pride = {4, 6, 3, 5, 0, 9};
        int[] cold = {13, 14, 21, 5, 25, 21};
        int[][] under = {{0}, {0, 1}, {0, 2}, {0, 1, 3}, {0, 2, 4}, {0, 5}};
        for (int one = 0; one < 6; one++) {
            x.show(one, one);
            for (int kind = 0; kind < 6; kind++) {
                boolean fits = false;
                for (int k : under[one]) {
                    fits |= k == kind;
                }
                due("says(" + one + ", " + kind + ")", x.says(one, kind), !fits ? -3 : kind == 0 ? pride[one] : cold[one]);
            }
        }
        x.tell(0, 20);
        due("says later", x.says(1, 1), 18);
    }

    private static void people() {
        promise = 9;
        ColdestSaysSo x = new ColdestSaysSo();
        for (int i = 0; i < 8; i++) {
            due("person " + i, x.person(i % 6, i, 20 - i), i);
            due("status(0)", x.status(0), i + 1);
        }
        due("one too many", x.person(0, 0, 0), -6);
        due("one too many, and BAD", x.person(6, 0, 0), -2);
        int[] seventh = {1, 7, 13, 0, 0};
        for (int what = 0; what < 5; what++) {
            due("personOf(7, " + what + ")", x.personOf(7, what), seventh[what]);
        }
        promise = 10;
        int[] most = {20, 9, 40};
        for (int what = 0; what < 3; what++) {
            due("give", x.give(7, what, most[what]), what == 0 ? 13 : 0);
            due("given", x.personOf(7, what + 2), most[what]);
            due("give less", x.give(7, what, 0), most[what]);
            due("given", x.personOf(7, what + 2), 0);
            due("another one's", x.personOf(6, what + 2), what == 0 ? 14 : 0);
        }
        promise = 50;
        int[] many = {2, 2, 1, 1, 1, 1};
        for (int kind = 0; kind < 6; kind++) {
            due("ofKind(" + kind + ")", x.ofKind(kind), many[kind]);
        }
    }

    private static void telling() {
        promise = 11;
        ColdestSaysSo x = new ColdestSaysSo();
        int[] first = {25, 1, 0, 2};
        int[] most = {40, 5, 999, 9};
        for (int what = 0; what < 4; what++) {
            due("tell the most", x.tell(what, most[what]), first[what]);
            due("told", x.status(what + 1), most[what]);
            due("tell the least", x.tell(what, 0), most[what]);
            due("told", x.status(what + 1), 0);
        }
        promise = 12;
        due("thaw", x.thaw(), 0);
        x.person(5, 0, 0);
        due("days(1)", x.days(1), 0);
        due("thaw", x.thaw(), 1);
        due("status(5)", x.status(5), NONE);
        due("thaw", x.thaw(), 0);
    }

    private static void tape() {
        promise = 13;
        ColdestSaysSo x = new ColdestSaysSo();
        for (int i = 1; i <= 250; i++) {
            due("feed", x.feed(i == 1 ? 0 : i == 2 ? 255 : 32), i);
        }
        due("feed, full", x.feed(32), -6);
        due("feed, full and BAD", x.feed(256), -2);
        due("status(7)", x.status(7), 250);
        promise = 14;
        due("wipe", x.wipe(), 250);
        due("wipe", x.wipe(), 0);
        due("feed", x.feed(255), 1);
    }

    private static void countries() {
        promise = 15;
        ColdestSaysSo x = new ColdestSaysSo();
        due("all statements", read(x, "person 3 9 20;feed 0 40;brandy 0 9;air 40;fall 5;day 999;coal 9"), 7);
        int[] one = {3, 9, 20, 9, 40};
        for (int what = 0; what < 5; what++) {
            due("personOf(0, " + what + ")", x.personOf(0, what), one[what]);
        }
        int[] told = {1, 40, 5, 999, 9};
        for (int what = 0; what < 5; what++) {
            due("status(" + what + ")", x.status(what), told[what]);
        }
        due("the tape is empty", x.status(7), 0);
        due("blanks", read(x, "   person0   0 0   ;  feed  1   7  "), 2);
        due("what there was stays", x.personOf(0, 4), 40);
        due("the new one", x.personOf(1, 4), 7);
        due("without blanks", read(x, "air7;fall0"), 2);
        due("AIR", x.status(1), 7);
        due("leading zeros", read(x, "air 007;day 010;feed 001 000"), 3);
        due("DAY", x.status(3), 10);
        due("FED is so then", x.personOf(1, 4), 0);
        due("twice", read(x, "air 1;air 2;air 3"), 3);
        due("AIR", x.status(1), 3);
        due("nothing was refused", x.status(12), 0);
    }

    private static void dueFault(ColdestSaysSo x, String text, int fault) {
        int bad = x.status(12);
        due("country() of '" + text + "'", read(x, text), -20 - fault);
        due("refused: '" + text + "'", x.status(12), bad + 1);
        due("tape behind '" + text + "'", x.status(7), 0);
        due("AIR behind '" + text + "'", x.status(1), 25);
    }

    private static void countryFaults() {
        promise = 15;
        ColdestSaysSo x = new ColdestSaysSo();
        dueFault(x, "", 0);
        dueFault(x, "   ", 3);
        dueFault(x, ";", 0);
        dueFault(x, "air", 3);
        dueFault(x, "air  ", 5);
        dueFault(x, "air 5;", 6);
        dueFault(x, "air 5;  ", 8);
        dueFault(x, "air 5;;fall 1", 6);
        dueFault(x, "air 5 6", 6);
        dueFault(x, "air 5 fall 1", 6);
        dueFault(x, "air x", 4);
        dueFault(x, "air ;", 4);
        dueFault(x, "5", 0);
        dueFault(x, "Air 5", 0);
        dueFault(x, "airs 5", 0);
        dueFault(x, "ai 5", 0);
        dueFault(x, "air 5x", 5);
        x = new ColdestSaysSo();
        dueFault(x, "air 0005", 4);
        dueFault(x, "day 1000", 4);
        dueFault(x, "air 41;x", 4);
        dueFault(x, "air 5 -", 6);
        dueFault(x, "air -5", 4);
        dueFault(x, "air\t5", 3);
        dueFault(x, "air 5;fall 6", 11);
        dueFault(x, "coal 10", 5);
        dueFault(x, "air 5;person 0 0", 16);
        dueFault(x, "air 5;feed 0 1;person 0 0 0", 11);
        dueFault(x, "person 0 0 0;feed 0 41", 20);
        dueFault(x, "person 0 0 0;brandy 0 10", 22);
        dueFault(x, "person 0 0 0;brandy 1 1", 20);
        due("nobody has come", x.status(0), 0);
        x = new ColdestSaysSo();
        for (int i = 0; i < 7; i++) {
            x.person(0, 0, 0);
        }
        dueFault(x, "air 1;person 0 0 0;person 0 0 0", 19);
        due("nobody has come", x.status(0), 7);
        x.person(0, 0, 0);
        dueFault(x, "person", 0);
        dueFault(x, "person 9", 0);
        dueFault(x, "air 1; person 0 0 0", 7);
        due("the others may still come", read(x, "feed 7 1"), 1);
    }

    private static void ofOne() {
        promise = 16;
        ColdestSaysSo x = six();
        int[][] want = {
            {0, 1, 4, 0, 3, 13, 14},
            {1, 2, 6, 0, 0, 14, 22},
            {2, 5, 3, 0, 0, 21, 8},
            {3, 3, 5, 4, 0, 5, 23},
            {4, 9, 0, 0, 0, 25, 35},
            {5, 0, 9, 0, 0, 21, 10}};
        for (int one = 0; one < 6; one++) {
            for (int what = 0; what < 7; what++) {
                due("personOf(" + one + ", " + what + ")", x.personOf(one, what), want[one][what]);
            }
        }
    }

    private static void cold() {
        promise = 17;
        ColdestSaysSo x = six();
        for (int one = 0; one < 6; one++) {
            due("speaks(" + one + ")", x.speaks(one), one == 2 || one == 5 ? 1 : 0);
        }
        due("just at LIMIT", single().speaks(0), 0);
        promise = 18;
        due("coldest", x.coldest(), 4);
        x.give(4, 2, 4);
        due("coldest of several", x.coldest(), 2);
        x.give(4, 2, 0);
        due("nobody", new ColdestSaysSo().coldest(), NONE);
        promise = 19;
        due("speaking", x.speaking(), 36);
        due("nobody", new ColdestSaysSo().speaking(), 0);
        promise = 20;
        due("coldest is silent", x.isSo(), 0);
        x.give(4, 2, 4);
        due("coldest speaks", x.isSo(), 1);
        x.give(4, 2, 0);
        promise = 21;
        int[] ranks = {4, 2, 5, 1, 0, 3};
        for (int i = 0; i < 6; i++) {
            due("rank(" + i + ")", x.rank(i), ranks[i]);
        }
        promise = 44;
        due("lead", x.lead(), 4);
        due("lead of one alone", single().lead(), 0);
        promise = 43;
        due("shivering", x.shivering(), 99);
    }

    private static void clampedCold() {
        promise = 16;
        ColdestSaysSo x = of("air 40;person 0 9 0;person 1 9 0;person 2 9 0;person 3 9 0;person 4 3 0;person 5 9 0;"
                + "feed 0 40;feed 2 40;feed 5 40;brandy 3 9");
        int[] want = {0, 0, 9, 0, 3, 5};
        for (int one = 0; one < 6; one++) {
            due("COLD of " + one, x.personOf(one, 5), want[one]);
        }
        x.person(4, 9, 0);
        due("with another LOVER", x.personOf(4, 5), 0);
        x.tell(0, 30);
        due("OLD", x.personOf(3, 5), 0);
        due("LOVER", x.personOf(4, 5), 3);
        due("the other LOVER", x.personOf(6, 5), 9);
        x.tell(0, 0);
        due("OLD", x.personOf(3, 5), 13);
    }

    private static void whens() {
        promise = 22;
        ColdestSaysSo x = six();
        due("when(0)", x.when(0), 6);
        due("when(1)", x.when(1), 4);
        x.give(4, 2, 4);
        due("when it is so now", x.when(0), 0);
        due("who", x.when(1), 2);
        x = single();
        due("when(0)", x.when(0), 1);
        x.tell(1, 0);
        due("it never cools", x.when(0), NONE);
        due("nobody says it", x.when(1), NONE);
        x.give(0, 2, 40);
        x.tell(0, 0);
        due("FED is less each day", x.when(0), 16);
        x = of("person 5 0 0;air 40;fall 1");
        x.days(1);
        due("WINTER or not", x.status(5), NONE);
        due("when", x.when(0), 5);
        x.days(6);
        due("WINTER", x.status(5), 6);
        due("when, though it is WINTER", x.when(0), 0);
    }

    private static void aheads() {
        promise = 23;
        ColdestSaysSo x = six();
        due("AIR now", x.ahead(0, 0), 24);
        due("AIR", x.ahead(11, 0), 2);
        due("AIR at 0", x.ahead(13, 0), 0);
        due("AIR far ahead", x.ahead(200, 0), 0);
        due("COLDEST", x.ahead(4, 1), 4);
        due("its COLD", x.ahead(4, 2), 33);
        due("its COLD far ahead", x.ahead(200, 2), 49);
        x = of("person 0 0 0;feed 0 3;person 1 2 0");
        due("COLDEST now", x.ahead(0, 1), 1);
        due("COLDEST tomorrow", x.ahead(1, 1), 0);
        due("nothing is changed", x.status(1), 25);
        due("nothing is changed", x.personOf(0, 4), 3);
        due("nothing is changed", x.status(3), 0);
        promise = 24;
        x = six();
        due("later now", x.later(3, 0), 5);
        due("later", x.later(3, 9), 23);
        due("later, FED", x.later(0, 2), 19);
        due("later, FED no more", x.later(0, 5), 26);
        due("far ahead", x.later(3, 200), 29);
    }

    private static void feeding() {
        promise = 25;
        ColdestSaysSo x = single();
        x.tell(3, 3);
        int[][] want = {{0, 0}, {1, 2}, {2, 4}, {20, 40}, {21, NONE}, {60, NONE}};
        for (int[] w : want) {
            int much = w[1];
            due("feeds(" + w[0] + ", 0)", x.feeds(w[0], 0), much);
            due("feeds(" + w[0] + ", 1)", x.feeds(w[0], 1), much > 0 ? 0 : NONE);
            due("feeds(" + w[0] + ", 2)", x.feeds(w[0], 2), much == NONE ? NONE : 3 * much);
        }
        x.give(0, 2, 10);
        due("FED already", x.feeds(20, 0), 30);
        due("FED 40 at most", x.feeds(21, 0), NONE);
        x = six();
        due("another one would speak", x.feeds(6, 0), NONE);
        x.give(5, 2, 40);
        x.give(2, 2, 40);
        due("whom", x.feeds(6, 1), 4);
        due("how much", x.feeds(6, 0), 8);
        promise = 49;
        x = of("person 0 0 5;person 0 0 6");
        due("all(0)", x.all(0), 0);
        due("all(1)", x.all(1), 2);
        due("all(20)", x.all(20), 40);
        due("all(21)", x.all(21), NONE);
        x.give(1, 2, 39);
        due("40 in all at most", x.all(20), 40);
    }

    private static void warming() {
        promise = 26;
        ColdestSaysSo x = of("person 0 0 5;person 0 0 5");
        due("nobody needs it", x.warm(1), 0);
        due("both", x.warm(11), 3);
        due("never", x.warm(5), NONE);
        due("never", x.warm(0), NONE);
        x = of("person 0 0 5;person 0 0 20;person 0 0 20");
        due("the others would be colder", x.warm(11), 7);
        x = of("person 2 3 20;person 2 1 20;person 5 0 0");
        due("fewest", x.warm(0), 0);
        x = of("person 2 9 20;person 2 9 20;person 2 9 20;person 5 0 0;fall 0");
        due("all who are colder", x.warm(0), 7);
        x.give(2, 2, 10);
        due("only who is colder", x.warm(0), 3);
        x.give(0, 2, 10);
        due("only who is colder", x.warm(0), 2);
        x = of("person 0 0 5;feed 0 30;air 0;fall 0");
        due("40 at most", x.warm(16), 1);
        due("not yet", x.warm(26), NONE);
        due("without", x.warm(6), 0);
    }

    private static void outs() {
        promise = 27;
        ColdestSaysSo x = of("person 0 0 5;person 2 9 20");
        due("latest", x.out(0), 0);
        due("soonest", x.out(1), 1);
        x = six();
        due("latest, the first of several", x.out(0), 0);
        due("soonest", x.out(1), 4);
        x = single();
        due("one alone", x.out(0), 0);
        due("one alone", x.out(1), 0);
        x = of("person 5 0 0;person 0 0 20;fall 0");
        due("NONE is latest", x.out(0), 0);
        due("soonest", x.out(1), 1);
        x = of("air 10;fall 0;person 4 9 0;person 4 0 0;person 0 0 20");
        due("a LOVER alone is colder", x.out(1), 1);
        due("the other one isn't", x.out(0), 0);
    }

    private static void prides() {
        promise = 28;
        ColdestSaysSo x = six();
        fill(x, 0, 1, 20, 1, 30, 0, 10, 1);
        due("no twos", x.prides(0, 0, 2), (1 << 21) - 1);
        due("one", x.prides(0, 1, 2), (1 << 20) - 1);
        due("two", x.prides(0, 2, 2), 1047552);
        due("three", x.prides(0, 3, 2), 1047552);
        due("PROUD: twice", x.prides(0, 1, 1), 0b1111);
        due("FED and AIR 10", x.prides(0, 3, 0), 0b1111111);
        due("LOVER: never", x.prides(0, 1, 4), 0);
        due("STRANGER: at 30 he speaks", x.prides(0, 2, 5), 0);
        due("STRANGER: any", x.prides(0, 1, 5), (1 << 21) - 1);
        fill(x, 1, 3, 40, 0, 0, 1);
        due("the edges of AIR", x.prides(1, 2, 0), (1 << 21) - 1);
        due("nothing is changed", x.personOf(2, 2), 3);
        due("nothing is changed", x.status(1), 24);
    }

    private static void kinds() {
        promise = 29;
        ColdestSaysSo x = six();
        fill(x, 0, 2, 20, 25, 20, 15, 20, 20);
        due("no twos", x.kinds(0, 0, 2), 63);
        due("THIN or STRANGER", x.kinds(0, 1, 2), 36);
        x.copy(0, 0, 2, 0, 2);
        due("PROUD, OLD or LOVER", x.kinds(0, 1, 2), 26);
        x.copy(0, 0, 4, 0, 2);
        due("PERSON", x.kinds(0, 1, 2), 1);
        due("none", x.kinds(0, 2, 2), 0);
        fill(x, 0, 2, 20, 29);
        due("a LOVER has no other there", x.kinds(0, 1, 4), 20);
        fill(x, 0, 2, 20, 9);
        due("OLD by BRANDY", x.kinds(0, 1, 3), 8);
        fill(x, 0, 3, 20, 9 + (1L << 32));
        due("longs are told whole", x.kinds(0, 1, 3), 0);
    }

    private static void airs() {
        promise = 30;
        ColdestSaysSo x = six();
        due("always", x.airs(4, 0), 41);
        due("always", x.airs(4, 1), 40);
        due("never", x.airs(0, 0), 0);
        due("never", x.airs(0, 1), NONE);
        x = of("person 5 0 0;person 0 0 0;feed 0 10");
        due("in the warmth", x.airs(0, 0), 6);
        due("in the warmth", x.airs(0, 1), 40);
        due("in the cold", x.airs(1, 0), 35);
        due("in the cold", x.airs(1, 1), 34);
    }

    private static void clashes() {
        promise = 31;
        ColdestSaysSo x = of("person 0 0 0;person 0 0 0;person 0 0 0;person 0 0 0");
        fill(x, 0, 0, 0, 1, 1, 2, 0, 1, 0, 2, 2, 0, 3, 3);
        due("no twos", x.clash(0, 0), NONE);
        due("told twice, and what follows", x.clash(0, 4), NONE);
        due("around", x.clash(0, 5), 4);
        due("the first", x.clash(0, 6), 4);
        fill(x, 0, 0, 0, 1, 3, 3);
        due("with himself", x.clash(0, 2), 1);
        fill(x, 0, 0, 0, 1, 0, 4);
        due("nobody such", x.clash(0, 2), 1);
        fill(x, 0, 0, 0, 1, -1, 2);
        due("nobody such", x.clash(0, 2), 1);
        fill(x, 0, 3, 0, 1, 1L << 32, 2);
        due("nobody such", x.clash(0, 2), 1);
        fill(x, 0, 0, 2, 3, 0, 1, 1, 2, 3, 0);
        due("joined in the middle", x.clash(0, 4), 3);
        due("by far", x.clash(0, 3), NONE);
    }

    private static void ordersAndNext() {
        promise = 32;
        ColdestSaysSo x = of("person 0 0 0;person 0 0 0;person 0 0 0;person 0 0 0");
        fill(x, 0, 0, 0, 1, 1, 2, 2, 3);
        int[] orders = {24, 12, 4, 1};
        int[] next = {1, 23, 13, NONE};
        int[] mayBe = {15, 13, 9, 1};
        for (int n = 0; n < 4; n++) {
            promise = 32;
            due("orders(0, " + n + ")", x.orders(0, n), orders[n]);
            promise = 33;
            due("next(0, " + n + ")", x.next(0, n), next[n]);
            promise = 34;
            due("mayBe(0, " + n + ")", x.mayBe(0, n), mayBe[n]);
        }
        fill(x, 0, 0, 3, 0, 2, 1);
        promise = 32;
        due("two twos", x.orders(0, 2), 6);
        promise = 33;
        due("two twos", x.next(0, 2), 1);
        promise = 34;
        due("two twos", x.mayBe(0, 2), 12);
        promise = 32;
        for (int i = 0; i < 4; i++) {
            x.person(0, 0, 0);
        }
        due("eight", x.orders(0, 0), 40320);
        promise = 33;
        due("eight", x.next(0, 0), 1);
        promise = 34;
        due("eight", x.mayBe(0, 0), 255);
    }

    private static void bowlsNow() {
        promise = 35;
        ColdestSaysSo x = six();
        fill(x, 0, 0, 4, 2, 2, 5, 0, 1, 4, 3);
        due("none told", x.wrongBowls(0, 0), 0);
        due("right", x.wrongBowls(0, 1), 0);
        due("alike", x.wrongBowls(0, 2), 1);
        due("wrong", x.wrongBowls(0, 3), 2);
        due("all", x.wrongBowls(0, 4), 2);
        x.give(5, 2, 1);
        due("now it is so", x.wrongBowls(0, 4), 1);
    }

    private static void turns() {
        promise = 36;
        ColdestSaysSo x = of("person 0 0 5;air 24;feed 0 1");
        int[] want = {0, 1, 0, 1, 0};
        for (int n = 0; n <= 4; n++) {
            due("byTurns(" + n + ")", x.byTurns(n), want[n]);
        }
        due("nothing is changed", x.personOf(0, 4), 1);
        x = single();
        due("nothing to take", x.byTurns(1), 0);
        x = of("person 0 0 5;air 0;feed 0 40");
        due("far from it", x.byTurns(4), 0);
        x = of("person 4 0 0;person 0 0 0;air 20");
        due("silent, as a LOVER is coldest", x.byTurns(0), 0);
        due("feed him", x.byTurns(1), 1);
        due("the other one takes nothing, but feeds", x.byTurns(2), 0);
        x = of("person 5 0 0;air 0");
        due("it is so by far", x.byTurns(4), 1);
    }

    private static void odds() {
        promise = 37;
        ColdestSaysSo x = single();
        int[] likely = {0, 750000, 937500, 984375, 996093, 999023};
        int[] mean = {25000, 23500, 22000, 20500, 19000, 17500};
        for (int t = 0; t <= 5; t++) {
            due("odds(" + t + ", 0)", x.odds(t, 0), likely[t]);
            due("odds(" + t + ", 1)", x.odds(t, 1), mean[t]);
        }
        x.tell(0, 1);
        due("it is so now", x.odds(0, 0), 1000000);
        due("AIR 0 at least", x.odds(1, 1), 250);
        due("AIR 0 at least", x.odds(2, 1), 62);
        x.tell(0, 24);
        x.give(0, 2, 1);
        due("FED is less, too", x.odds(1, 0), 1000000);
        x.give(0, 2, 5);
        due("FED is less, too", x.odds(1, 0), 0);
        due("FED is less, too", x.odds(2, 0), 625000);
        due("nothing is changed", x.status(2), 1);
        x = of("person 4 0 0;person 0 0 0;feed 0 3;air 27;fall 0");
        due("once so is enough", x.odds(3, 0), 1000000);
        due("seed stays", x.status(8), 1);
        due("so at AIR 40", of("air 40;person 2 9 0").odds(0, 0), 1000000);
    }

    private static void leastAndGreatest() {
        promise = 38;
        ColdestSaysSo x = six();
        due("warmest", x.warmest(), 13);
        due("warmest at 40", of("person 2 9 0").warmest(), 40);
        due("never", of("person 3 9 20").warmest(), NONE);
        promise = 48;
        int[] bites = {22, 15, 36, 5, 13, 34};
        for (int one = 0; one < 6; one++) {
            due("bites(" + one + ")", x.bites(one), bites[one]);
        }
        due("always", of("person 2 9 0").bites(0), 40);
        due("never", of("person 3 9 20").bites(0), NONE);
        promise = 39;
        due("it isn't so", x.brandyFor(3), 0);
        x = of("air 0;person 3 0 5;person 0 0 20;feed 1 10");
        due("LIMIT 20, but the other one is silent", x.brandyFor(0), 6);
        due("no OLD one", x.brandyFor(1), NONE);
        x.give(0, 1, 9);
        due("not more, but in all", x.brandyFor(0), 6);
        x.give(1, 0, 0);
        due("the other one speaks then", x.brandyFor(0), NONE);
        due("nine is just enough", of("air 0;person 3 0 6").brandyFor(0), 9);
        due("nine is just not enough", of("air 0;person 3 0 5").brandyFor(0), NONE);
        promise = 40;
        x = six();
        int[][] want = {{0, NONE}, {2, NONE}, {3, 4}, {4, 3}, {5, 3}, {6, 2}, {10, 2}, {11, 1}, {60, 1}};
        for (int[] w : want) {
            due("fallFor(" + w[0] + ")", x.fallFor(w[0]), w[1]);
        }
        x.tell(0, 13);
        due("it is so now", x.fallFor(0), 0);
    }

    private static void holdingOut() {
        promise = 41;
        ColdestSaysSo x = six();
        int[] want = {1, 5, 0, 10, 6, 0};
        for (int one = 0; one < 6; one++) {
            due("holdsOut(" + one + ")", x.holdsOut(one), want[one]);
        }
        promise = 42;
        due("longest", x.toughest(0), 3);
        due("shortest, the first of several", x.toughest(1), 2);
        x.person(0, 0, 20);
        x.tell(1, 0);
        promise = 41;
        due("for ever", x.holdsOut(1), NONE);
        promise = 42;
        due("NONE is longest, the first of several", x.toughest(0), 1);
        x = of("person 0 0 20;person 5 0 0;fall 0;air 0;feed 1 40");
        due("NONE isn't shortest", x.toughest(1), 0);
        due("longest", x.toughest(0), 1);
    }

    private static void sums() {
        promise = 45;
        ColdestSaysSo x = six();
        due("quiet", x.quiet(), 24);
        x.give(2, 2, 5);
        due("FED already", x.quiet(), 19);
        due("it can't be", of("person 2 9 0").quiet(), NONE);
        due("40 is enough", of("person 2 5 0;air 0").quiet(), 40);
        due("40 isn't enough", of("person 2 6 0;air 0").quiet(), NONE);
        due("nobody", new ColdestSaysSo().quiet(), 0);
    }

    private static void withoutOne() {
        promise = 46;
        ColdestSaysSo x = six();
        due("second(4)", x.second(4), 2);
        due("second(2)", x.second(2), 4);
        due("one alone", single().second(0), NONE);
        x = of("person 0 0 0;person 4 0 0;person 4 0 0;person 4 3 0");
        due("LOVERS are less cold", x.coldest(), 0);
        due("still two", x.second(3), 0);
        x = of("person 0 0 0;person 4 1 0;person 4 9 0");
        due("LOVERS are less cold", x.coldest(), 0);
        due("a LOVER without the other", x.second(2), 1);
        promise = 47;
        x = six();
        due("gap(4)", x.gap(4), 4);
        due("gap(2)", x.gap(2), 0);
        due("one alone", single().gap(0), NONE);
        x = of("person 0 0 0;person 0 0 0;feed 0 20;feed 1 40;air 0");
        due("40 is just not enough", x.gap(0), NONE);
        x = of("person 0 0 0;person 0 0 0;feed 0 20;feed 1 39;air 0");
        due("40 is just enough", x.gap(0), 20);
    }

    private static void judging() {
        promise = 51;
        ColdestSaysSo x = of("person 0 0 0;feed 0 3;person 1 2 0");
        fill(x, 0, 0, 1, 0, 0, 1);
        due("none told", x.judge(0, 0), NONE);
        due("right", x.judge(0, 3), NONE);
        due("wrong", x.judge(0, 4), 3);
        x.set(0, 0, 0);
        due("wrong at first", x.judge(0, 4), 0);
        fill(x, 1, 3, 1L + (1L << 32));
        due("longs are told whole", x.judge(1, 1), 0);
        x.row(2, 0, 40);
        x.tell(0, 40);
        due("all forty", x.judge(2, 40), NONE);
        x = new ColdestSaysSo();
        fill(x, 0, 0, NONE, NONE, 0);
        due("nobody", x.judge(0, 3), 2);
    }

    private static void days() {
        promise = 52;
        ColdestSaysSo x = of("person 0 0 5;person 0 0 20;feed 1 2");
        due("not yet", x.days(1), NONE);
        due("AIR", x.status(1), 24);
        due("DAY", x.status(3), 1);
        due("FED", x.personOf(1, 4), 1);
        due("FED 0 at least", x.personOf(0, 4), 0);
        due("now", x.days(1), 1);
        due("it stays", x.days(60), 1);
        due("AIR 0 at least", x.status(1), 0);
        due("DAY", x.status(3), 62);
        x.thaw();
        due("again", x.days(1), 62);
        x.tell(2, 998);
        x.thaw();
        due("DAY 999 at most", x.days(1), 998);
        x.thaw();
        due("DAY 999 at most", x.days(5), 999);
        due("DAY", x.status(3), 999);
        x = of("person 5 0 0;air 40;fall 5;day 7");
        due("the DAY on which it was said", x.days(60), 9);
    }

    private static void drawn() {
        promise = 53;
        ColdestSaysSo x = of("person 5 0 0;person 5 0 0;person 0 0 0");
        int seed = 1;
        int[] fed = new int[3];
        int air = 25;
        int so = 0;
        int winter = NONE;
        int fall = 0;
        for (int d = 0; d < 60; d++) {
            seed = seed * 1103515245 + 12345;
            fall = (seed >>> 16) % 4;
            seed = seed * 1103515245 + 12345;
            int who = (seed >>> 16) % 4;
            if (who < 3) {
                fed[who] = Math.min(40, fed[who] + 1);
            }
            int most = Math.max(Math.max(0, 40 - air - fed[0]), Math.max(0, 40 - air - fed[1])) + 5;
            if (most >= Math.max(0, 40 - air - fed[2]) && most > 10) {
                so++;
                winter = winter == NONE ? d : winter;
            }
            air = Math.max(0, air - fall);
            for (int i = 0; i < 3; i++) {
                fed[i] = Math.max(0, fed[i] - 1);
            }
        }
        due("drawn(60)", x.drawn(60), so);
        due("AIR", x.status(1), air);
        due("FALL", x.status(2), fall);
        due("DAY", x.status(3), 60);
        due("WINTER", x.status(5), winter);
        due("all FED", x.status(6), fed[0] + fed[1] + fed[2]);
        promise = 54;
        due("seed(7)", x.seed(7), seed);
        due("status(8)", x.status(8), 7);
        due("any seed", x.seed(Integer.MIN_VALUE), 7);
        due("any seed", x.seed(-2), Integer.MIN_VALUE);
        due("any seed", x.seed(1), -2);
        x = of("person 0 0 0;feed 0 40;air 0");
        due("drawn(60)", x.drawn(60) > 0 ? 1 : 0, 1);
        due("FED 40 at most", x.personOf(0, 4) <= 40 ? 1 : 0, 1);
    }

    private static void images() {
        promise = 56;
        ColdestSaysSo x = of("person 3 1 2;person 4 9 4;feed 1 5;brandy 0 6;air 7;fall 4;day 8;coal 9");
        due("nothing was kept", x.back(), -5);
        x.seed(11);
        x.days(1);
        due("image", x.image(), 1);
        x.person(5, 0, 0);
        x.show(0, 2);
        x.show(1, 1);
        fill(x, 2, 0, 5);
        x.feed(97);
        x.give(1, 2, 33);
        x.give(0, 1, 0);
        x.give(0, 0, 19);
        x.tell(3, 0);
        x.thaw();
        x.drawn(3);
        due("back", x.back(), 1);
        int[] want = {2, 3, 4, 9, 9, 8, 4, 1, 11, 2};
        for (int what = 0; what < want.length; what++) {
            due("status(" + what + ")", x.status(what), want[what]);
        }
        int[][] people = {{3, 1, 2, 6, 0}, {4, 9, 4, 0, 4}};
        for (int one = 0; one < 2; one++) {
            for (int what = 0; what < 5; what++) {
                due("personOf(" + one + ", " + what + ")", x.personOf(one, what), people[one][what]);
            }
        }
        due("one who isn't there any more", x.holds(0), NONE);
        due("one who is", x.holds(1), 11);
        due("a ROW stays", x.holds(2), 0);
        due("a ROW stays", x.element(2, 0), 5);
        due("REFUSALS stay", x.status(15), 1);
        due("a LOVER is alone again", x.personOf(1, 5), 42);
        x.person(4, 0, 0);
        due("a LOVER has another", x.personOf(1, 5), 32);
        due("back once more", x.back(), 1);
        due("PEOPLE", x.status(0), 2);
        due("a LOVER is alone again", x.personOf(1, 5), 42);
        promise = 55;
        x.tell(0, 40);
        due("image again", x.image(), 1);
        x.tell(0, 1);
        due("back", x.back(), 1);
        due("AIR", x.status(1), 40);
    }

    private static void status() {
        promise = 57;
        ColdestSaysSo x = six();
        x.give(1, 2, 9);
        x.days(1);
        due("country read too early", x.status(12), 1);
        int[] want = {6, 22, 2, 9, 3, NONE, 10, 0, 1, 0, NONE, NONE, 1, 0, 0, 0, 0, NONE};
        for (int what = 0; what < want.length; what++) {
            due("status(" + what + ")", x.status(what), want[what]);
        }
        due("another what", x.status(-1), NONE);
        due("another what", x.status(Integer.MIN_VALUE), NONE);
        due("another what", x.status(Integer.MAX_VALUE), NONE);
        x.row(0, 0, 0);
        x.show(1, 0);
        due("SHELVES", x.status(9), 2);
        x.show(9, 0);
        x.set(1, 0, 0);
        x.set(1, 0, 0);
        x.set(2, 0, 0);
        x.set(2, 0, 0);
        x.set(2, 0, 0);
        x.back();
        for (int i = 0; i < 4; i++) {
            x.person(0, 0, 0);
        }
        int[] refusals = {2, 2, 3, 1, 2};
        for (int i = 0; i < 5; i++) {
            due("status(" + (12 + i) + ")", x.status(12 + i), refusals[i]);
        }
    }
}
