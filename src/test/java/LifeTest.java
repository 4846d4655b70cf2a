import com.sun.management.ThreadMXBean;
import java.lang.management.ManagementFactory;

/**
 * What holds for an object's whole life: all its 512 calls are answered alike, another object beside it
 * is no matter, and no call makes an object (LANGUAGE.md, rule 12: all calls live in one room).
 */
public final class LifeTest {
    private static final int CALLS = 512;
    private static int wrong = 0;

    public static void main(String[] args) {
        questions();
        sides();
        room();
        System.out.println(wrong == 0 ? "an object's whole life is as due" : wrong + " answers are not as due");
        if (wrong != 0) {
            System.exit(1);
        }
    }

    private static void due(String what, long got, long want) {
        if (got != want) {
            wrong++;
            System.out.println(what + " answered " + got + ", due is " + want);
        }
    }

    /** Eight PEOPLE, a ROW of twenty twos that don't CLASH: how many calls it took. */
    private static int settle(ColdestSaysSo x) {
        int calls = 0;
        for (int i = 0; i < 8; i++, calls++) {
            x.person(i % 6, i, 2 * i);
        }
        x.row(0, 1, 40);
        calls++;
        for (int i = 0; i < 40; i++, calls++) {
            x.set(0, i, i % 2 == 0 ? 0 : 1);
        }
        return calls;
    }

    private static final int QUESTIONS = 41;

    private static long ask(ColdestSaysSo x, int question) {
        switch (question) {
            case 0: return x.element(0, 39);
            case 1: return x.holds(0);
            case 2: return x.copy(0, 0, 0, 0, 40);
            case 3: return x.personOf(7, 5);
            case 4: return x.speaks(7);
            case 5: return x.coldest();
            case 6: return x.speaking();
            case 7: return x.isSo();
            case 8: return x.rank(7);
            case 9: return x.when(0);
            case 10: return x.when(1);
            case 11: return x.ahead(200, 2);
            case 12: return x.later(7, 200);
            case 13: return x.feeds(60, 0);
            case 14: return x.feeds(60, 2);
            case 15: return x.warm(60);
            case 16: return x.out(0);
            case 17: return x.prides(0, 20, 7);
            case 18: return x.kinds(0, 20, 7);
            case 19: return x.airs(7, 1);
            case 20: return x.clash(0, 20);
            case 21: return x.orders(0, 20);
            case 22: return x.next(0, 20);
            case 23: return x.mayBe(0, 20);
            case 24: return x.wrongBowls(0, 20);
            case 25: return x.byTurns(4);
            case 26: return x.odds(5, 0);
            case 27: return x.odds(5, 1);
            case 28: return x.warmest();
            case 29: return x.brandyFor(3);
            case 30: return x.fallFor(60);
            case 31: return x.holdsOut(7);
            case 32: return x.toughest(0);
            case 33: return x.shivering();
            case 34: return x.lead();
            case 35: return x.quiet();
            case 36: return x.second(2);
            case 37: return x.gap(2);
            case 38: return x.bites(2);
            case 39: return x.all(60);
            default: return x.judge(0, 40);
        }
    }

    /** Each question is asked of an object of its own, then again and again of one, till its 512th call. */
    private static void questions() {
        long[] first = new long[QUESTIONS];
        for (int q = 0; q < QUESTIONS; q++) {
            ColdestSaysSo x = new ColdestSaysSo();
            settle(x);
            first[q] = ask(x, q);
        }
        ColdestSaysSo x = new ColdestSaysSo();
        for (int calls = settle(x); calls < CALLS; calls++) {
            int q = calls % QUESTIONS;
            due("call " + (calls + 1) + ", question " + q, ask(x, q), first[q]);
        }
        refusedToTheEnd();
    }

    /** The 512th call tells of all 511 REFUSALS ahead of it. */
    private static void refusedToTheEnd() {
        ColdestSaysSo x = new ColdestSaysSo();
        for (int calls = 1; calls < CALLS; calls++) {
            due("back", x.back(), -5);
        }
        due("status(15), the 512th call", x.status(15), CALLS - 1);
    }

    /** What one object's life is, told by a sum of its answers; step by step, so that two can go side by side. */
    private static final class Life {
        private final ColdestSaysSo x = new ColdestSaysSo();
        private final int seed;
        private long told = 0;

        Life(int seed) {
            this.seed = seed;
            tell(x.seed(seed));
        }

        private void tell(long answer) {
            told = 31 * told + answer;
        }

        void step(int k) {
            switch ((k + seed) % 9) {
                case 0: tell(x.person((k / 9 + seed) % 6, k % 10, k % 21)); break;
                case 1: tell(x.drawn(1 + k % 3)); break;
                case 2: tell(x.feed("air 9;".charAt(k % 6))); break;
                case 3: tell(x.row(k % 8, k % 5, k % 41)); break;
                case 4: tell(x.set(k % 8, k % 7, seed)); break;
                case 5: tell(x.give(k % 9, k % 3, k % 9)); break;
                case 6: tell(k % 5 == 0 ? x.image() : k % 7 == 0 ? x.back() : x.tell(k % 4, k % 6)); break;
                case 7: tell(ask(x, k % QUESTIONS)); break;
                default: tell(k % 4 == 0 ? x.country() : x.status(k % 17));
            }
        }
    }

    private static void sides() {
        for (int seed = 1; seed < 30; seed++) {
            Life alone = new Life(seed);
            for (int k = 0; k < CALLS - 1; k++) {
                alone.step(k);
            }
            Life left = new Life(seed);
            Life right = new Life(seed + 4);
            for (int k = 0; k < CALLS - 1; k++) {
                left.step(k);
                right.step(k);
            }
            due("a life beside another, by SEED " + seed, left.told, alone.told);
        }
    }

    /** The least of three lives counts: what the machine makes for itself comes once. */
    private static void room() {
        if (!(ManagementFactory.getThreadMXBean() instanceof ThreadMXBean bean) || !bean.isThreadAllocatedMemorySupported()) {
            System.out.println("this machine doesn't tell what is made; not tested");
            return;
        }
        long[] made = new long[3];
        for (int round = 0; round < made.length; round++) {
            Life life = new Life(5);
            long before = bean.getThreadAllocatedBytes(Thread.currentThread().getId());
            for (int k = 0; k < CALLS - 1; k++) {
                life.step(k);
            }
            for (int q = 0; q < QUESTIONS; q++) {
                life.tell(ask(life.x, q));
            }
            made[round] = bean.getThreadAllocatedBytes(Thread.currentThread().getId()) - before;
        }
        long least = Math.min(made[0], Math.min(made[1], made[2]));
        if (least > 2048) {
            due("bytes made by a life's calls", least, 0);
        }
    }
}
