/** The bounds of promises 9 to 21: PEOPLE, THE COUNTRY as it is told, THE TAPE, THE COLD as it is now. */
public final class CountryBoundsTest {
    public static void main(String[] args) {
        person();
        give();
        tell();
        thaw();
        feed();
        wipe();
        statements();
        numbers();
        tokens();
        eachByte();
        endsTooEarly();
        noRoom();
        allOrNothing();
        wholeTape();
        personOf();
        now();
        rank();
        Bench.end();
    }

    private static void person() {
        Bench.sentence(9, "One of the PEOPLE: the number. BAD; FULL");
        Bench.range("KIND", Bench.crowd(), 0, 5, (x, v) -> x.person(v, 0, 0));
        Bench.range("a", Bench.crowd(), 0, 9, (x, v) -> x.person(0, v, 0));
        Bench.range("PRIDE", Bench.crowd(), 0, 20, (x, v) -> x.person(0, 0, v));
        Bench.is("the first", Bench.fresh(), 0, x -> x.person(5, 9, 20));
        Bench.is("the eighth", Bench.alike(7), 7, x -> x.person(5, 9, 20));
        Bench.refused("the ninth", Bench.alike(8), Bench.FULL, x -> x.person(5, 9, 20));
        Bench.refused("the tenth", Bench.with(Bench.alike(8), x -> x.person(0, 0, 0)), Bench.FULL, x -> x.person(0, 0, 0));
        Bench.outside("KIND ahead of FULL", Bench.alike(8), Bench.BAD, 0, 5, (x, v) -> x.person(v, 0, 0));
        Bench.outside("a ahead of FULL", Bench.alike(8), Bench.BAD, 0, 9, (x, v) -> x.person(0, v, 0));
        Bench.outside("PRIDE ahead of FULL", Bench.alike(8), Bench.BAD, 0, 20, (x, v) -> x.person(0, 0, v));
        Bench.World again = Bench.with(Bench.alike(7), x -> x.image(), x -> x.person(3, 9, 20), x -> x.give(7, 1, 9),
                x -> x.give(7, 2, 40), x -> x.back(), x -> x.person(2, 1, 3));
        int[] want = {2, 1, 3, 0, 0};
        for (int what = 0; what < want.length; what++) {
            int w = what;
            Bench.asks("nothing is left of who was there", again, want[what], x -> x.personOf(7, w));
        }
    }

    private static void give() {
        Bench.sentence(10, "PRIDE (what 0), BRANDY (1), FED (2) of one becomes v: what it was. BAD");
        Bench.range("person", Bench.crowd(), 0, 5, (x, v) -> x.give(v, 0, 0));
        Bench.range("person of eight", Bench.alike(8), 0, 7, (x, v) -> x.give(v, 0, 0));
        Bench.range("what", Bench.crowd(), 0, 2, (x, v) -> x.give(0, v, 0));
        Bench.outside("nobody is there", Bench.fresh(), Bench.BAD, 0, -1, (x, v) -> x.give(v, 0, 0));
        int[] most = {20, 9, 40};
        for (int what = 0; what < 3; what++) {
            int w = what;
            Bench.range("v of " + what, Bench.crowd(), 0, most[what], (x, v) -> x.give(5, w, v));
            Bench.World full = Bench.with(Bench.alike(8), x -> x.give(7, w, most[w]));
            Bench.is("what it was, the most", full, most[what], x -> x.give(7, w, 0));
            Bench.is("what it was, the least", Bench.with(full, x -> x.give(7, w, 0)), 0, x -> x.give(7, w, 1));
            for (int other = 0; other < 3; other++) {
                int o = other;
                Bench.is("what of him is given", full, o == w ? most[w] : 0, x -> x.personOf(7, 2 + o));
                Bench.is("not of another one", full, 0, x -> x.personOf(6, 2 + o));
            }
        }
        Bench.refused("10 is PRIDE, no BRANDY", Bench.crowd(), Bench.BAD, x -> x.give(0, 1, 10));
        Bench.is("10 is PRIDE", Bench.crowd(), 4, x -> x.give(0, 0, 10));
        Bench.refused("21 is FED, no PRIDE", Bench.crowd(), Bench.BAD, x -> x.give(0, 0, 21));
        Bench.is("21 is FED", Bench.crowd(), 3, x -> x.give(0, 2, 21));
    }

    private static void tell() {
        Bench.sentence(11, "AIR (what 0), FALL (1), DAY (2), COAL (3) becomes v: what it was. BAD");
        Bench.range("what", Bench.crowd(), 0, 3, (x, v) -> x.tell(v, 0));
        int[] most = {40, 5, 999, 9};
        for (int what = 0; what < 4; what++) {
            int w = what;
            Bench.range("v of " + what, Bench.crowd(), 0, most[what], (x, v) -> x.tell(w, v));
            Bench.World told = Bench.with(Bench.fresh(), x -> x.tell(w, most[w]));
            Bench.is("what it was, the most", told, most[what], x -> x.tell(w, 0));
            Bench.is("what it was, the least", Bench.with(told, x -> x.tell(w, 0)), 0, x -> x.tell(w, 1));
            int[] first = {25, 1, 0, 2};
            for (int other = 0; other < 4; other++) {
                int o = other;
                Bench.is("what is told", told, o == w ? most[w] : first[o], x -> x.status(1 + o));
            }
        }
        Bench.is("WINTER stays", Bench.with(Bench.of("person 5 0 0"), x -> x.days(1), x -> x.tell(2, 9)), 0, x -> x.status(5));
    }

    private static void thaw() {
        Bench.sentence(12, "There is no WINTER (any more): whether there was (1, 0)");
        Bench.asks("none was", Bench.fresh(), 0, x -> x.thaw());
        Bench.World winter = Bench.with(Bench.of("person 5 0 0"), x -> x.days(1));
        Bench.is("of DAY 0", winter, 1, x -> x.thaw());
        Bench.is("of DAY 999", Bench.with(Bench.of("person 5 0 0;day 999"), x -> x.days(1)), 1, x -> x.thaw());
        Bench.is("any more", Bench.with(winter, x -> x.thaw()), Bench.NONE, x -> x.status(5));
        Bench.asks("twice", Bench.with(winter, x -> x.thaw()), 0, x -> x.thaw());
        Bench.is("it comes again", Bench.with(winter, x -> x.thaw()), 1, x -> x.days(1));
    }

    private static Bench.World tapeOf(int size) {
        return () -> {
            ColdestSaysSo x = new ColdestSaysSo();
            for (int i = 0; i < size; i++) {
                x.feed(' ');
            }
            return x;
        };
    }

    private static void feed() {
        Bench.sentence(13, "THE TAPE gets one byte (0 to 255) behind it: its size. BAD; FULL");
        Bench.range("letter", Bench.crowd(), 0, 255, (x, v) -> x.feed(v));
        Bench.is("the first", tapeOf(0), 1, x -> x.feed(0));
        Bench.is("the 249th", tapeOf(248), 249, x -> x.feed(255));
        Bench.is("the last", tapeOf(249), 250, x -> x.feed(255));
        Bench.refused("one too many", tapeOf(250), Bench.FULL, x -> x.feed(0));
        Bench.outside("BAD ahead of FULL", tapeOf(250), Bench.BAD, 0, 255, (x, v) -> x.feed(v));
        Bench.asks("its size", tapeOf(250), 250, x -> x.status(7));
        Bench.is("behind wipe there is room", Bench.with(tapeOf(250), x -> x.wipe()), 1, x -> x.feed(0));
        Bench.is("behind country there is room", Bench.with(tapeOf(250), x -> x.country()), 1, x -> x.feed(0));
    }

    private static void wipe() {
        Bench.sentence(14, "THE TAPE is empty: its size ahead");
        for (int size : new int[] {0, 1, 249, 250}) {
            Bench.is("wipe", tapeOf(size), size, x -> x.wipe());
            Bench.is("empty", Bench.with(tapeOf(size), x -> x.wipe()), 0, x -> x.status(7));
            Bench.is("wiped twice", Bench.with(tapeOf(size), x -> x.wipe()), 0, x -> x.wipe());
        }
        Bench.World over = Bench.with(Bench.fresh(), x -> Bench.read(x, ""), x -> { Bench.feedText(x, "air 5;;"); return 0; },
                x -> x.wipe());
        Bench.is("nothing of it is read", over, 1, x -> Bench.read(x, "air 6"));
    }

    // ---- country

    private static void reads(String text, int statements) {
        ColdestSaysSo x = new ColdestSaysSo();
        int was = x.status(12);
        Bench.due("country of '" + text + "'", Bench.read(x, text), statements);
        Bench.due("not refused: '" + text + "'", x.status(12), was);
        Bench.due("THE TAPE behind '" + text + "'", x.status(7), 0);
    }

    /** A FAULT: refused as BAD, THE TAPE is empty, nothing else is changed. */
    private static void faults(Bench.World world, String text, int fault) {
        ColdestSaysSo x = world.make();
        ColdestSaysSo twin = world.make();
        Bench.due("country of '" + text + "'", Bench.read(x, text), -20 - fault);
        for (int what = 0; what <= 16; what++) {
            int more = what == 12 ? 1 : 0;
            Bench.due("status(" + what + ") behind '" + text + "'", x.status(what), twin.status(what) + more);
        }
        for (int one = 0; one < twin.status(0); one++) {
            for (int what = 0; what <= 6; what++) {
                Bench.due("personOf behind '" + text + "'", x.personOf(one, what), twin.personOf(one, what));
            }
        }
    }

    private static void faults(String text, int fault) {
        faults(Bench.fresh(), text, fault);
    }

    private static void statements() {
        Bench.sentence(15, "STATEMENTS, one or more, with ; between: how many");
        reads("air 1", 1);
        reads("air 1;air 2", 2);
        reads("person 0 0 0;feed 0 1;brandy 0 1;air 1;fall 1;day 1;coal 1", 7);
        faults("", 0);
        faults(" ", 1);
        faults(";", 0);
        faults(" ;", 1);
        faults("air 1;", 6);
        faults(";air 1", 0);
        faults("air 1;;air 2", 6);
        faults("air 1; ;air 2", 7);
        faults("air 1 air 2", 6);
        faults("air 1,air 2", 5);
        Bench.sentence(15, "each STATEMENT has just what belongs to it");
        faults("air 1 2", 6);
        faults("fall 1 2", 7);
        faults("day 1 2", 6);
        faults("coal 1 2", 7);
        faults("person 0 0 0 0", 13);
        faults("person 0 0;air 1", 10);
        faults("person 0;air 1", 8);
        faults("person;air 1", 6);
        faults("person 0 0 air", 11);
        faults(Bench.alike(1), "feed 0 1 1", 9);
        faults(Bench.alike(1), "feed 0;air 1", 6);
        faults(Bench.alike(1), "feed;air 1", 4);
        faults(Bench.alike(1), "brandy 0 1 1", 11);
        faults(Bench.alike(1), "brandy 0;air 1", 8);
        faults("air;air 1", 3);
        faults("air air 1", 4);
        faults("1", 0);
        Bench.sentence(15, "as many STATEMENTS as THE TAPE takes");
        StringBuilder text = new StringBuilder("air1");
        for (int i = 1; i < 50; i++) {
            text.append(";air").append(i % 10);
        }
        reads(text.toString(), 50);
    }

    private static void numbers() {
        Bench.sentence(15, "a NUMBER that may not be");
        String[] words = {"air ", "fall ", "day ", "coal ", "person ", "person 0 ", "person 0 0 "};
        int[] most = {40, 5, 999, 9, 5, 9, 20};
        String[] behind = {"", "", "", "", " 0 0", " 0", ""};
        for (int i = 0; i < words.length; i++) {
            reads(words[i] + 0 + behind[i], 1);
            reads(words[i] + most[i] + behind[i], 1);
            faults(words[i] + (most[i] + 1) + behind[i], words[i].length());
        }
        String[] given = {"feed", "brandy"};
        int[] mostGiven = {40, 9};
        for (int i = 0; i < 2; i++) {
            String one = "person 0 0 0;" + given[i] + " 0 ";
            reads(one + 0, 2);
            reads(one + mostGiven[i], 2);
            faults(one + (mostGiven[i] + 1), one.length());
            Bench.World eight = Bench.alike(8);
            Bench.is(given[i] + " to the last", eight, 1, x -> Bench.read(x, "feed 7 1"));
            faults(eight, given[i] + " 8 1", given[i].length() + 1);
            faults(given[i] + " 0 1", given[i].length() + 1);
            faults(given[i] + " 0 1;person 0 0 0", given[i].length() + 1);
        }
        Bench.sentence(15, "or has more than 3 digits");
        reads("air 0", 1);
        reads("air 00", 1);
        reads("air 000", 1);
        faults("air 0000", 4);
        reads("air 040", 1);
        faults("air 0040", 4);
        faults("day 0999", 4);
        faults("day 1000", 4);
        faults("day 99999999999999999999", 4);
        faults("air 4294967296", 4);
        faults("air 0000;x", 4);
        reads("person 005 009 020", 1);
        faults("person 0005 0 0", 7);
        reads("person 0 0 0;feed 000 040;brandy 000 009", 3);
        faults("person 0 0 0;feed 0000 1", 18);
        Bench.is("its value", Bench.of("day 098"), 98, x -> x.status(3));
    }

    private static void tokens() {
        Bench.sentence(15, "TOKENS, each as long as can be; blanks may stand anywhere between");
        reads("air1;fall2", 2);
        reads("  air   1   ;   fall   2   ", 2);
        reads("person0 0 0", 1);
        reads("air 1 ;fall 1", 2);
        faults("air1fall 1", 4);
        faults("airfall 1", 0);
        faults("ai r 1", 0);
        faults("aira 1", 0);
        faults("aai 1", 0);
        faults("a", 0);
        faults("persons 0 0 0", 0);
        faults("perso 0 0 0", 0);
        faults("person 000", 10);
        faults("person 00 0", 11);
        Bench.is("12 is one", Bench.of("air 12"), 12, x -> x.status(1));
        otherLetters();
        faults("AIR 1", 0);
        faults("Air 1", 0);
        faults("air -1", 4);
        faults("air +1", 4);
        faults("air 1.5", 5);
        faults("air\n1", 3);
        faults("air\t1", 3);
    }

    /** A WORD of which one letter is another, or is lacking, is none that can stand there. */
    private static void otherLetters() {
        String[] words = {"person", "feed", "brandy", "air", "fall", "day", "coal"};
        Bench.World one = Bench.alike(1);
        for (String word : words) {
            for (int i = 0; i < word.length(); i++) {
                faults(one, word.substring(0, i) + "x" + word.substring(i + 1) + " 0 0 0", 0);
                faults(one, word.substring(0, i) + word.substring(i + 1) + " 0 0 0", 0);
                faults(one, word.substring(0, i) + "1" + word.substring(i + 1) + " 0 0 0", 0);
            }
            faults(one, word + "x 0 0 0", 0);
            faults(one, word + " a 0 0", word.length() + 1);
            faults(one, word + " z 0 0", word.length() + 1);
        }
    }

    /** The bytes of each sort begin and end where the document says. */
    private static void eachByte() {
        Bench.sentence(15, "a byte that begins none");
        for (int b = 0; b <= 255; b++) {
            String letter = String.valueOf((char) b);
            boolean word = b >= 'a' && b <= 'z';
            boolean digit = b >= '0' && b <= '9';
            boolean blank = b == ' ';
            faults(letter, blank ? 1 : 0);
            if (digit) {
                reads("air " + letter, 1);
                reads("air 1" + letter, 1);
            } else {
                faults("air " + letter, blank ? 5 : 4);
            }
            if (blank) {
                reads("air 1" + letter, 1);
            } else if (!digit) {
                faults("air 1" + letter, b == ';' ? 6 : 5);
            }
            if (b == ';' || blank) {
                faults("air 1;" + letter, blank ? 7 : 6);
            } else {
                faults("air 1;" + letter, 6);
            }
            int air = word ? 0 : blank || digit ? Bench.NONE : 3;
            if (air != Bench.NONE) {
                faults("air" + letter + "1", air);
            }
        }
    }

    private static void endsTooEarly() {
        Bench.sentence(15, "THE TAPE's size, if it ends too early");
        String whole = "person 1 2 3;feed 0 4;brandy 0 5;air 6;fall 5;day 8;coal 9";
        boolean[] mayEnd = new boolean[whole.length() + 1];
        for (int end : new int[] {12, 21, 32, 38, 45, 51, 58}) {
            mayEnd[end] = true;
        }
        for (int end = 0; end <= whole.length(); end++) {
            String text = whole.substring(0, end);
            char last = end == 0 ? ' ' : text.charAt(end - 1);
            char next = end == whole.length() ? ' ' : whole.charAt(end);
            boolean isCutWord = last >= 'a' && last <= 'z' && next != ' ';
            if (mayEnd[end]) {
                Bench.due("'" + text + "'", Bench.read(new ColdestSaysSo(), text) > 0 ? 1 : 0, 1);
            } else if (isCutWord) {
                faults(text, text.lastIndexOf(';') + 1);
            } else {
                faults(text, end);
                faults(text + "  ", end + 2);
            }
        }
    }

    private static void noRoom() {
        Bench.sentence(15, "what there is no room for: its word");
        Bench.World seven = Bench.alike(7);
        Bench.World eight = Bench.alike(8);
        Bench.is("the eighth", seven, 1, x -> Bench.read(x, "person 0 0 0"));
        faults(seven, "person 0 0 0;person 0 0 0", 13);
        faults(seven, "person 0 0 0; person 0 0 0", 14);
        faults(eight, "person 0 0 0", 0);
        faults(eight, " person 0 0 0", 1);
        faults(eight, "air 1;person 0 0 0", 6);
        faults(eight, "person 6 0 0", 0);
        faults(eight, "person", 0);
        faults(eight, "person;", 0);
        faults(eight, "air 41;person 0 0 0", 4);
        Bench.is("the others may still be told", eight, 3, x -> Bench.read(x, "feed 7 1;brandy 7 1;air 1"));
        StringBuilder nine = new StringBuilder("person 0 0 0");
        for (int i = 1; i < 8; i++) {
            nine.append(";person 0 0 0");
        }
        reads(nine.toString(), 8);
        faults(nine + ";person 0 0 0", 8 * 13);
    }

    private static void allOrNothing() {
        Bench.sentence(15, "All comes to what there is, or nothing");
        Bench.World two = Bench.with(Bench.alike(2), x -> x.give(1, 2, 7), x -> x.give(1, 1, 3));
        faults(two, "air 1;fall 2;day 3;coal 4;feed 1 9;brandy 1 9;person 4 1 1;feed 2 9;x", 68);
        faults(two, "feed 0 40;feed 2 1", 15);
        Bench.World read = Bench.with(two, x -> Bench.read(x, "person 4 1 1;feed 2 9;feed 1 8;brandy 1 2;air 1"));
        int[] want = {3, 1, 1, 0, 2, Bench.NONE, 17, 0, 1, 0};
        for (int what = 0; what < want.length; what++) {
            int w = what;
            Bench.is("status(" + what + ")", read, want[what], x -> x.status(w));
        }
        Bench.is("FED is N then", read, 8, x -> x.personOf(1, 4));
        Bench.is("BRANDY is N then", read, 2, x -> x.personOf(1, 3));
        Bench.is("the new one's FED", read, 9, x -> x.personOf(2, 4));
        Bench.is("who was there stays", read, 0, x -> x.personOf(0, 4));
        Bench.is("the last counts", Bench.of("air 1;air 2"), 2, x -> x.status(1));
        Bench.World winter = Bench.with(Bench.of("person 5 0 0"), x -> x.days(1), x -> Bench.read(x, "day 50"));
        Bench.is("WINTER stays", winter, 0, x -> x.status(5));
        Bench.is("SHELVES stay", Bench.with(Bench.crowd(), x -> x.country()), 12, x -> x.holds(Bench.ONE));
        Bench.sentence(15, "THE TAPE is empty then, either way");
        Bench.is("read", Bench.with(Bench.of("air 1")), 0, x -> x.status(7));
        Bench.is("not read", Bench.with(Bench.fresh(), x -> Bench.read(x, "air")), 0, x -> x.status(7));
        Bench.is("nothing of it stays", Bench.with(Bench.fresh(), x -> Bench.read(x, "air")), 1, x -> Bench.read(x, "fall1"));
        Bench.is("a shorter one isn't read on", Bench.of("air 1;fall 3;day 7"), 1, x -> Bench.read(x, "air 2"));
    }

    private static void wholeTape() {
        Bench.sentence(15, "bytes, 250 at most");
        StringBuilder text = new StringBuilder("air 1");
        while (text.length() < 250) {
            text.append(' ');
        }
        reads(text.toString(), 1);
        text.setCharAt(249, ';');
        faults(text.toString(), 250);
        text.setCharAt(249, 'x');
        faults(text.toString(), 249);
        text.setCharAt(245, ';');
        text.setCharAt(246, 'a');
        text.setCharAt(247, 'i');
        text.setCharAt(248, 'r');
        faults(text.toString(), 246);
        text.setCharAt(249, '7');
        reads(text.toString(), 2);
        StringBuilder blanks = new StringBuilder();
        for (int i = 0; i < 250; i++) {
            blanks.append(' ');
        }
        faults(blanks.toString(), 250);
        StringBuilder digits = new StringBuilder("air ");
        StringBuilder letters = new StringBuilder();
        while (digits.length() < 250) {
            digits.append('0');
        }
        while (letters.length() < 250) {
            letters.append('z');
        }
        faults(digits.toString(), 4);
        faults(letters.toString(), 0);
    }

    // ---- THE COLD now

    private static void personOf() {
        Bench.sentence(16, "KIND (0) to LIMIT (6). BAD");
        Bench.range("person", Bench.crowd(), 0, 5, (x, v) -> x.personOf(v, 0));
        Bench.range("person of eight", Bench.alike(8), 0, 7, (x, v) -> x.personOf(v, 6));
        Bench.range("what", Bench.crowd(), 0, 6, (x, v) -> x.personOf(5, v));
        Bench.outside("nobody is there", Bench.fresh(), Bench.BAD, 0, -1, (x, v) -> x.personOf(v, 0));
        int[] want = {3, 3, 5, 4, 0, 5, 23};
        for (int what = 0; what < want.length; what++) {
            int w = what;
            Bench.asks("personOf(3, " + what + ")", Bench.crowd(), want[what], x -> x.personOf(3, w));
        }
    }

    private static void now() {
        Bench.sentence(17, "Whether one SPEAKS now: 1, 0. BAD");
        Bench.range("speaks", Bench.crowd(), 0, 5, (x, v) -> x.speaks(v));
        Bench.range("speaks, of eight", Bench.alike(8), 0, 7, (x, v) -> x.speaks(v));
        Bench.outside("nobody is there", Bench.fresh(), Bench.BAD, 0, -1, (x, v) -> x.speaks(v));
        Bench.asks("though he isn't COLDEST", Bench.crowd(), 1, x -> x.speaks(5));
        Bench.asks("COLDEST is silent", Bench.crowd(), 0, x -> x.speaks(4));

        Bench.sentence(18, "COLDEST; NONE. (NONE isn't refused.)");
        Bench.asks("coldest", Bench.crowd(), 4, x -> x.coldest());
        Bench.asks("nobody", Bench.fresh(), Bench.NONE, x -> x.coldest());

        Bench.sentence(19, "PEOPLE (bits) who SPEAK now");
        Bench.asks("nobody is there", Bench.fresh(), 0, x -> x.speaking());
        Bench.asks("none", Bench.with(Bench.alike(8), x -> x.tell(0, 30)), 0, x -> x.speaking());
        Bench.asks("all eight", Bench.with(Bench.alike(8), x -> x.tell(0, 29)), 255, x -> x.speaking());
        Bench.asks("the last alone", Bench.with(Bench.alike(7), x -> x.person(5, 0, 0), x -> x.tell(0, 30)), 128,
                x -> x.speaking());
        Bench.asks("two of six", Bench.crowd(), 36, x -> x.speaking());

        Bench.sentence(20, "Whether it IS SO: 1, 0");
        Bench.asks("nobody", Bench.fresh(), 0, x -> x.isSo());
        Bench.asks("eight", Bench.alike(8), 1, x -> x.isSo());
        Bench.asks("COLDEST is silent", Bench.crowd(), 0, x -> x.isSo());
    }

    private static void rank() {
        Bench.sentence(21, "RANK: the i-th (0 on), of several alike by numbers. BAD");
        Bench.range("i", Bench.crowd(), 0, 5, (x, v) -> x.rank(v));
        Bench.range("i of eight", Bench.alike(8), 0, 7, (x, v) -> x.rank(v));
        Bench.range("i of one", Bench.alike(1), 0, 0, (x, v) -> x.rank(v));
        Bench.outside("nobody is there", Bench.fresh(), Bench.BAD, 0, -1, (x, v) -> x.rank(v));
        int[] want = {4, 2, 5, 1, 0, 3};
        for (int i = 0; i < 6; i++) {
            int at = i;
            Bench.asks("rank(" + i + ")", Bench.crowd(), want[i], x -> x.rank(at));
        }
        for (int i = 0; i < 8; i++) {
            int at = i;
            Bench.asks("eight alike", Bench.alike(8), i, x -> x.rank(at));
            Bench.asks("the last one first", Bench.with(Bench.alike(7), x -> x.person(5, 0, 0)), i == 0 ? 7 : i - 1,
                    x -> x.rank(at));
        }
    }
}
