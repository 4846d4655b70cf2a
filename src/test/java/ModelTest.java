import java.util.ArrayList;
import java.util.List;
import java.util.TreeSet;

/**
 * Long runs of calls, each answer against a model that is written from the document on its own: one
 * object for each of the PEOPLE, all ORDERS listed, all ways and all turns gone through.
 */
public final class ModelTest {
    private static final int NONE = -1;
    private static final int RUNS = 700;
    private static final int CALLS = 500;

    /** One of the PEOPLE. */
    private static class One {
        int kind;
        int a;
        int pride;
        int brandy;
        int fed;

        One(int kind, int a, int pride) {
            this.kind = kind;
            this.a = a;
            this.pride = pride;
        }

        One twin() {
            One o = new One(kind, a, pride);
            o.brandy = brandy;
            o.fed = fed;
            return o;
        }
    }

    private static class Land {
        List<One> people = new ArrayList<>();
        int air = 25;
        int fall = 1;
        int day = 0;
        int winter = NONE;
        int coal = 2;
        int seed = 1;

        Land twin() {
            Land l = new Land();
            for (One o : people) {
                l.people.add(o.twin());
            }
            l.air = air;
            l.fall = fall;
            l.day = day;
            l.winter = winter;
            l.coal = coal;
            l.seed = seed;
            return l;
        }

        int cold(One o) {
            return cold(o, o.kind);
        }

        int cold(One o, int kind) {
            int c = 0;
            if (kind == 0) c = 40 - air - o.fed;
            if (kind == 1) c = cold(o, 0) - o.a;
            if (kind == 3) c = cold(o, 1) - 2 * o.brandy;
            if (kind == 2) c = cold(o, 0) + o.a;
            if (kind == 5) c = cold(o, 0) + 5;
            if (kind == 4) {
                c = cold(o, 2);
                for (One other : people) {
                    if (other != o && other.kind == 4) {
                        c = cold(o, 2) - 10;
                    }
                }
            }
            return c < 0 ? 0 : c;
        }

        int limit(One o) {
            if (o.kind == 0) return 10 + o.pride;
            if (o.kind == 1) return 10 + o.pride + o.pride;
            if (o.kind == 3) return 10 + o.pride + o.pride + o.a;
            if (o.kind == 2) return 5 + o.pride;
            return o.kind == 4 ? 35 : 10;
        }

        boolean speaks(One o) {
            return cold(o) > limit(o);
        }

        List<Integer> ranks() {
            List<Integer> all = new ArrayList<>();
            for (int i = 0; i < people.size(); i++) {
                all.add(i);
            }
            all.sort((i, j) -> cold(people.get(j)) - cold(people.get(i)));
            return all;
        }

        int coldest() {
            return people.isEmpty() ? NONE : ranks().get(0);
        }

        boolean isSo() {
            return !people.isEmpty() && speaks(people.get(coldest()));
        }

        Land aDay() {
            if (winter == NONE && isSo()) {
                winter = day;
            }
            air -= fall;
            if (air < 0) air = 0;
            for (One o : people) {
                if (o.fed > 0) o.fed--;
            }
            if (day < 999) day++;
            return this;
        }

        Land behind(int n) {
            Land l = twin();
            for (int d = 0; d < n; d++) {
                l.aDay();
            }
            return l;
        }

        int when() {
            Land l = twin();
            for (int d = 0; d <= 60; d++) {
                if (l.isSo()) return d;
                l.aDay();
            }
            return NONE;
        }

        /** NONE as a day behind all. */
        int late() {
            return when() == NONE ? 1000 : when();
        }

        Land fed(int i, int n) {
            Land l = twin();
            l.people.get(i).fed = Math.min(40, l.people.get(i).fed + n);
            return l;
        }

        Land without(int i) {
            Land l = twin();
            l.people.remove(i);
            return l;
        }

        Land withAir(int v) {
            Land l = twin();
            l.air = v;
            return l;
        }

        int draw(int n) {
            seed = seed * 1103515245 + 12345;
            return ((seed >> 16) & 0xffff) % n;
        }
    }

    /** The whole of the document's object. */
    private static class Model {
        Land now = new Land();
        Land kept = null;
        Object[] shelf = new Object[8];
        int[] sort = new int[8];
        List<Integer> tape = new ArrayList<>();
        int[] refusals = new int[5];

        long refuse(int number) {
            refusals[-2 - number]++;
            return number;
        }

        boolean one(int i) {
            return i >= 0 && i < now.people.size();
        }

        static boolean in(long v, long least, long most) {
            return v >= least && v <= most;
        }

        long[] rowOf(int s) {
            return shelf[s] instanceof long[] r ? r : null;
        }

        long row(int s, int srt, int n) {
            if (!in(s, 0, 7) || !in(srt, 0, 4) || !in(n, 0, 40)) return refuse(-2);
            shelf[s] = new long[n];
            sort[s] = srt;
            return 1;
        }

        long set(int s, int i, long v) {
            if (!in(s, 0, 7)) return refuse(-2);
            if (shelf[s] instanceof Integer) return refuse(-3);
            if (shelf[s] == null) return refuse(-4);
            if (!in(i, 0, rowOf(s).length - 1)) return refuse(-2);
            int bits = 8 << sort[s];
            rowOf(s)[i] = sort[s] == 4 ? (v == 0 ? 0 : 1) : v << 64 - bits >> 64 - bits;
            return 1;
        }

        long copy(int p, int q, int i, int j, int n) {
            if (!in(p, 0, 7) || !in(q, 0, 7)) return refuse(-2);
            if (shelf[p] instanceof Integer || shelf[q] instanceof Integer) return refuse(-3);
            if (shelf[p] != null && shelf[q] != null && sort[p] != sort[q]) return refuse(-3);
            if (shelf[p] == null || shelf[q] == null) return refuse(-4);
            if (n < 0 || i < 0 || j < 0 || (long) i + n > rowOf(p).length || (long) j + n > rowOf(q).length) {
                return refuse(-2);
            }
            long[] was = rowOf(p).clone();
            for (int k = 0; k < n; k++) {
                rowOf(q)[j + k] = was[i + k];
            }
            return n;
        }

        long element(int s, int i) {
            return in(s, 0, 7) && rowOf(s) != null && in(i, 0, rowOf(s).length - 1) ? rowOf(s)[i] : 0;
        }

        long holds(int s) {
            if (!in(s, 0, 7) || shelf[s] == null) return NONE;
            return shelf[s] instanceof Integer i ? 10 + i : sort[s];
        }

        long show(int s, int person) {
            if (!in(s, 0, 7) || (person != NONE && !one(person))) return refuse(-2);
            shelf[s] = person == NONE ? null : (Object) person;
            return 1;
        }

        long says(int s, int kind) {
            if (!in(s, 0, 7) || !in(kind, 0, 5)) return refuse(-2);
            if (shelf[s] == null) return refuse(-4);
            if (!(shelf[s] instanceof Integer)) return refuse(-3);
            One o = now.people.get((Integer) shelf[s]);
            String line = new String[] {"0", "01", "02", "013", "024", "05"}[o.kind];
            if (line.indexOf('0' + kind) < 0) return refuse(-3);
            return kind == 0 ? o.pride : now.cold(o);
        }

        long person(int kind, int a, int pride) {
            if (!in(kind, 0, 5) || !in(a, 0, 9) || !in(pride, 0, 20)) return refuse(-2);
            if (now.people.size() == 8) return refuse(-6);
            now.people.add(new One(kind, a, pride));
            return now.people.size() - 1;
        }

        long give(int person, int what, int v) {
            if (!one(person) || !in(what, 0, 2) || !in(v, 0, what == 0 ? 20 : what == 1 ? 9 : 40)) return refuse(-2);
            One o = now.people.get(person);
            int was = what == 0 ? o.pride : what == 1 ? o.brandy : o.fed;
            if (what == 0) o.pride = v;
            if (what == 1) o.brandy = v;
            if (what == 2) o.fed = v;
            return was;
        }

        long tell(int what, int v) {
            if (!in(what, 0, 3) || !in(v, 0, what == 0 ? 40 : what == 1 ? 5 : what == 2 ? 999 : 9)) return refuse(-2);
            long was = status(what + 1);
            put(now, what, v);
            return was;
        }

        static void put(Land l, int what, int v) {
            if (what == 0) l.air = v;
            if (what == 1) l.fall = v;
            if (what == 2) l.day = v;
            if (what == 3) l.coal = v;
        }

        long thaw() {
            int was = now.winter == NONE ? 0 : 1;
            now.winter = NONE;
            return was;
        }

        long feed(int letter) {
            if (!in(letter, 0, 255)) return refuse(-2);
            if (tape.size() == 250) return refuse(-6);
            tape.add(letter);
            return tape.size();
        }

        long wipe() {
            int was = tape.size();
            tape.clear();
            return was;
        }

        /** All TOKENS first: {place, text}; a byte that begins none is a text of its own. */
        List<Object[]> tokens() {
            List<Object[]> all = new ArrayList<>();
            StringBuilder text = new StringBuilder();
            for (int b : tape) {
                text.append((char) b);
            }
            java.util.regex.Matcher m = java.util.regex.Pattern.compile("[a-z]+|[0-9]+|[^ ]", java.util.regex.Pattern.DOTALL)
                    .matcher(text);
            while (m.find()) {
                all.add(new Object[] {m.start(), m.group()});
            }
            all.add(new Object[] {text.length(), "END"});
            return all;
        }

        long country() {
            List<Object[]> all = tokens();
            tape.clear();
            Land l = now.twin();
            int at = 0;
            int many = 0;
            String[] words = {"air", "fall", "day", "coal", "feed", "brandy", "person"};
            int[][] most = {{40}, {5}, {999}, {9}, {NONE, 40}, {NONE, 9}, {5, 9, 20}};
            while (true) {
                int word = java.util.Arrays.asList(words).indexOf(all.get(at)[1]);
                if (word < 0 || (word == 6 && l.people.size() == 8)) return faultAt(all.get(at));
                at++;
                int[] v = new int[3];
                for (int k = 0; k < most[word].length; k++) {
                    String text = (String) all.get(at)[1];
                    int top = most[word][k] == NONE ? l.people.size() - 1 : most[word][k];
                    if (!text.matches("[0-9]{1,3}") || Integer.parseInt(text) > top) return faultAt(all.get(at));
                    v[k] = Integer.parseInt(text);
                    at++;
                }
                if (word < 4) put(l, word, v[0]);
                if (word == 4) l.people.get(v[0]).fed = v[1];
                if (word == 5) l.people.get(v[0]).brandy = v[1];
                if (word == 6) l.people.add(new One(v[0], v[1], v[2]));
                many++;
                if (at == all.size() - 1) {
                    now = l;
                    return many;
                }
                if (!all.get(at)[1].equals(";")) return faultAt(all.get(at));
                at++;
            }
        }

        long faultAt(Object[] token) {
            refusals[0]++;
            return -20 - (Integer) token[0];
        }

        long personOf(int person, int what) {
            if (!one(person) || !in(what, 0, 6)) return refuse(-2);
            One o = now.people.get(person);
            return new int[] {o.kind, o.a, o.pride, o.brandy, o.fed, now.cold(o), now.limit(o)}[what];
        }

        long speaks(int person) {
            return one(person) ? now.speaks(now.people.get(person)) ? 1 : 0 : refuse(-2);
        }

        long speaking() {
            long bits = 0;
            for (int i = 0; i < now.people.size(); i++) {
                bits += speaks(i) << i;
            }
            return bits;
        }

        long rank(int i) {
            return one(i) ? now.ranks().get(i) : refuse(-2);
        }

        long when(int what) {
            if (!in(what, 0, 1)) return refuse(-2);
            int w = now.when();
            return what == 0 || w == NONE ? w : now.behind(w).coldest();
        }

        long ahead(int n, int what) {
            if (!in(n, 0, 200) || !in(what, 0, 2)) return refuse(-2);
            Land l = now.behind(n);
            if (what == 0) return l.air;
            if (what == 1) return l.coldest();
            return l.people.isEmpty() ? 0 : l.cold(l.people.get(l.coldest()));
        }

        long later(int person, int n) {
            if (!one(person) || !in(n, 0, 200)) return refuse(-2);
            Land l = now.behind(n);
            return l.cold(l.people.get(person));
        }

        long feeds(int t, int what) {
            if (!in(t, 0, 60) || !in(what, 0, 2)) return refuse(-2);
            if (now.people.isEmpty()) return refuse(-5);
            if (now.late() > t) return what == 1 ? NONE : 0;
            for (int k = 1; k <= 40; k++) {
                for (int i = 0; i < now.people.size(); i++) {
                    if (now.fed(i, k).late() > t) return what == 0 ? k : what == 1 ? i : k * now.coal;
                }
            }
            return NONE;
        }

        long warm(int t) {
            if (!in(t, 0, 60)) return refuse(-2);
            for (int many = 0; many <= now.people.size(); many++) {
                for (int bits = 0; bits < 1 << now.people.size(); bits++) {
                    if (Integer.bitCount(bits) != many) continue;
                    Land l = now;
                    for (int i = 0; i < now.people.size(); i++) {
                        if ((bits & 1 << i) != 0) l = l.fed(i, 20);
                    }
                    if (l.when() == t) return bits;
                }
            }
            return NONE;
        }

        long out(int what) {
            if (!in(what, 0, 1)) return refuse(-2);
            if (now.people.isEmpty()) return refuse(-5);
            int best = 0;
            for (int i = 1; i < now.people.size(); i++) {
                int more = now.without(i).late() - now.without(best).late();
                if (what == 0 ? more > 0 : more < 0) best = i;
            }
            return best;
        }

        long rowRefusal(int s, int n, int most, int each) {
            if (!in(s, 0, 7) || !in(n, 0, most)) return -2;
            if (shelf[s] instanceof Integer) return -3;
            if (shelf[s] == null) return -4;
            return rowOf(s).length < n * each ? -2 : 0;
        }

        long prides(int s, int n, int person) {
            long no = one(person) ? rowRefusal(s, n, 20, 2) : -2;
            if (no != 0) return refuse((int) no);
            long[] r = rowOf(s);
            for (int k = 0; k < n; k++) {
                if (!in(r[2 * k], 0, 40) || !in(r[2 * k + 1], 0, 1)) return refuse(-5);
            }
            long bits = 0;
            for (int p = 0; p <= 20; p++) {
                boolean fits = true;
                for (int k = 0; k < n; k++) {
                    Land l = now.withAir((int) r[2 * k]);
                    l.people.get(person).pride = p;
                    fits &= l.speaks(l.people.get(person)) == (r[2 * k + 1] == 1);
                }
                bits |= fits ? 1 << p : 0;
            }
            return bits;
        }

        long kinds(int s, int n, int person) {
            long no = one(person) ? rowRefusal(s, n, 20, 2) : -2;
            if (no != 0) return refuse((int) no);
            long[] r = rowOf(s);
            for (int k = 0; k < n; k++) {
                if (!in(r[2 * k], 0, 40)) return refuse(-5);
            }
            long bits = 0;
            for (int kind = 0; kind <= 5; kind++) {
                boolean fits = true;
                for (int k = 0; k < n; k++) {
                    Land l = now.withAir((int) r[2 * k]);
                    l.people.get(person).kind = kind;
                    fits &= l.cold(l.people.get(person)) == r[2 * k + 1];
                }
                bits |= fits ? 1 << kind : 0;
            }
            return bits;
        }

        long airs(int person, int what) {
            if (!one(person) || !in(what, 0, 1)) return refuse(-2);
            TreeSet<Integer> found = new TreeSet<>();
            for (int air = 0; air <= 40; air++) {
                if (now.withAir(air).coldest() == person) found.add(air);
            }
            return what == 0 ? found.size() : found.isEmpty() ? NONE : found.last();
        }

        /** All ORDERS, coldest first, that agree with the first n twos. */
        List<int[]> listed(long[] r, int n) {
            List<int[]> all = new ArrayList<>();
            extend(new ArrayList<>(), r, n, all);
            return all;
        }

        void extend(List<Integer> head, long[] r, int n, List<int[]> all) {
            int size = now.people.size();
            if (head.size() == size) {
                int[] order = new int[size];
                for (int i = 0; i < size; i++) {
                    order[head.get(i)] = i;
                }
                for (int k = 0; k < n; k++) {
                    if (order[(int) r[2 * k]] >= order[(int) r[2 * k + 1]]) return;
                }
                all.add(order);
                return;
            }
            for (int i = 0; i < size; i++) {
                if (!head.contains(i)) {
                    head.add(i);
                    extend(head, r, n, all);
                    head.remove(head.size() - 1);
                }
            }
        }

        int firstClash(int s, int n) {
            long[] r = rowOf(s);
            for (int k = 0; k < n; k++) {
                if (!in(r[2 * k], 0, now.people.size() - 1) || !in(r[2 * k + 1], 0, now.people.size() - 1)) return k;
                if (listed(r, k + 1).isEmpty()) return k;
            }
            return NONE;
        }

        long clash(int s, int n) {
            long no = rowRefusal(s, n, 20, 2);
            return no != 0 ? refuse((int) no) : firstClash(s, n);
        }

        long bowls(int s, int n, int what) {
            long no = rowRefusal(s, n, 20, 2);
            if (no == 0 && firstClash(s, n) != NONE) no = -5;
            if (no != 0) return refuse((int) no);
            List<int[]> all = listed(rowOf(s), n);
            int size = now.people.size();
            if (what == 0) return all.size();
            if (what == 1) return nextOf(all, size);
            long answer = 0;
            if (what == 2) {
                for (int[] order : all) {
                    for (int i = 0; i < size; i++) {
                        if (order[i] == 0) answer |= 1 << i;
                    }
                }
                return answer;
            }
            for (int k = 0; k < n; k++) {
                One o = now.people.get((int) rowOf(s)[2 * k]);
                One p = now.people.get((int) rowOf(s)[2 * k + 1]);
                if (now.cold(o) <= now.cold(p)) answer++;
            }
            return answer;
        }

        long nextOf(List<int[]> all, int size) {
            if (all.size() == 1) return NONE;
            int best = NONE;
            int fewest = Integer.MAX_VALUE;
            for (int i = 0; i < size; i++) {
                for (int j = i + 1; j < size; j++) {
                    int first = 0;
                    for (int[] order : all) {
                        if (order[i] < order[j]) first++;
                    }
                    // told apart by the twos just if all ORDERS have them alike
                    if (first == 0 || first == all.size()) continue;
                    int left = Math.max(first, all.size() - first);
                    if (left < fewest) {
                        fewest = left;
                        best = 10 * i + j;
                    }
                }
            }
            return best;
        }

        long byTurns(int n) {
            return in(n, 0, 4) ? canMake(now.twin(), n, true) ? 1 : 0 : refuse(-2);
        }

        boolean canMake(Land l, int left, boolean first) {
            if (left == 0) return l.isSo();
            boolean any = canMake(l, left - 1, !first);
            boolean every = any;
            for (One o : l.people) {
                int was = o.fed;
                for (int fed = Math.max(0, was - 1); fed <= Math.min(40, was + 1); fed++) {
                    if (fed == was || (first ? any : !every)) continue;
                    o.fed = fed;
                    boolean so = canMake(l, left - 1, !first);
                    any |= so;
                    every &= so;
                    o.fed = was;
                }
            }
            return first ? any : every;
        }

        long odds(int t, int what) {
            if (!in(t, 0, 5) || !in(what, 0, 1)) return refuse(-2);
            int whole = 1 << 2 * t;
            long so = 0;
            long sum = 0;
            for (int way = 0; way < whole; way++) {
                Land l = now.twin();
                boolean was = l.isSo();
                for (int d = 0; d < t; d++) {
                    l.fall = way >> 2 * d & 3;
                    l.aDay();
                    was |= l.isSo();
                }
                so += was ? 1 : 0;
                sum += l.air;
            }
            return what == 0 ? so * 1000000 / whole : sum * 1000 / whole;
        }

        long warmest() {
            for (int air = 40; air >= 0; air--) {
                if (now.withAir(air).isSo()) return air;
            }
            return NONE;
        }

        long brandyFor(int person) {
            if (!one(person)) return refuse(-2);
            for (int b = 0; b <= 9; b++) {
                Land l = now.twin();
                l.people.get(person).brandy = b;
                if (!l.isSo()) return b;
            }
            return NONE;
        }

        long fallFor(int t) {
            if (!in(t, 0, 60)) return refuse(-2);
            for (int fall = 0; fall <= 5; fall++) {
                Land l = now.twin();
                l.fall = fall;
                if (l.late() <= t) return fall;
            }
            return NONE;
        }

        int held(int person) {
            for (int d = 0; d <= 60; d++) {
                Land l = now.behind(d);
                if (l.speaks(l.people.get(person))) return d;
            }
            return NONE;
        }

        long toughest(int what) {
            if (!in(what, 0, 1)) return refuse(-2);
            if (now.people.isEmpty()) return refuse(-5);
            int best = 0;
            for (int i = 1; i < now.people.size(); i++) {
                int more = (held(i) == NONE ? 61 : held(i)) - (held(best) == NONE ? 61 : held(best));
                if (what == 0 ? more > 0 : more < 0) best = i;
            }
            return best;
        }

        long shivering() {
            long sum = 0;
            for (One o : now.people) {
                sum += now.cold(o);
            }
            return sum;
        }

        long lead() {
            if (now.people.size() < 2) return 0;
            List<Integer> r = now.ranks();
            return now.cold(now.people.get(r.get(0))) - now.cold(now.people.get(r.get(1)));
        }

        long quiet() {
            long sum = 0;
            for (int i = 0; i < now.people.size(); i++) {
                int least = NONE;
                for (int k = 40; k >= 0; k--) {
                    Land l = now.fed(i, k);
                    if (!l.speaks(l.people.get(i))) least = k;
                }
                if (least == NONE) return NONE;
                sum += least;
            }
            return sum;
        }

        long second(int person) {
            if (!one(person)) return refuse(-2);
            int c = now.without(person).coldest();
            return c >= person ? c + 1 : c;
        }

        long gap(int person) {
            if (!one(person)) return refuse(-2);
            for (int k = 0; k <= 40; k++) {
                if (now.fed(person, k).coldest() != person) return k;
            }
            return NONE;
        }

        long bites(int person) {
            if (!one(person)) return refuse(-2);
            for (int air = 40; air >= 0; air--) {
                Land l = now.withAir(air);
                if (l.speaks(l.people.get(person))) return air;
            }
            return NONE;
        }

        long all(int t) {
            if (!in(t, 0, 60)) return refuse(-2);
            for (int k = 0; k <= 40; k++) {
                Land l = now;
                for (int i = 0; i < now.people.size(); i++) {
                    l = l.fed(i, k);
                }
                if (l.late() > t) return k;
            }
            return NONE;
        }

        long ofKind(int kind) {
            return in(kind, 0, 5) ? now.people.stream().filter(o -> o.kind == kind).count() : refuse(-2);
        }

        long judge(int s, int n) {
            long no = rowRefusal(s, n, 40, 1);
            if (no != 0) return refuse((int) no);
            for (int d = 0; d < n; d++) {
                if (now.behind(d).coldest() != rowOf(s)[d]) return d;
            }
            return NONE;
        }

        long days(int n) {
            if (!in(n, 1, 60)) return refuse(-2);
            now = now.behind(n);
            return now.winter;
        }

        long drawn(int n) {
            if (!in(n, 1, 60)) return refuse(-2);
            int so = 0;
            for (int d = 0; d < n; d++) {
                now.fall = now.draw(4);
                int who = now.draw(now.people.size() + 1);
                if (who < now.people.size()) now = now.fed(who, 1);
                if (now.isSo()) so++;
                now.aDay();
            }
            return so;
        }

        long seed(int v) {
            int was = now.seed;
            now.seed = v;
            return was;
        }

        long image() {
            kept = now.twin();
            return 1;
        }

        long back() {
            if (kept == null) return refuse(-5);
            now = kept.twin();
            for (int s = 0; s < 8; s++) {
                if (shelf[s] instanceof Integer i && i >= now.people.size()) shelf[s] = null;
            }
            return 1;
        }

        long status(int what) {
            if (what == 0) return now.people.size();
            if (what == 1) return now.air;
            if (what == 2) return now.fall;
            if (what == 3) return now.day;
            if (what == 4) return now.coal;
            if (what == 5) return now.winter;
            if (what == 6) return now.people.stream().mapToInt(o -> o.fed).sum();
            if (what == 7) return tape.size();
            if (what == 8) return now.seed;
            if (what == 9) return java.util.Arrays.stream(shelf).filter(o -> o != null).count();
            return in(what, 12, 16) ? refusals[what - 12] : NONE;
        }
    }

    private static int wrong = 0;
    private static long dice = 20261118L;
    private static ColdestSaysSo x;
    private static Model m;
    private static int calls;
    private static int run;
    /** PEOPLE at most in this run: what lists all ORDERS or turns is slow with eight. */
    private static int crowd;

    private static int roll(int n) {
        dice = dice * 6364136223846793005L + 1442695040888963407L;
        return (int) ((dice >>> 33) % n);
    }

    /** 0 to most; now and then outside of it. */
    private static int some(int most) {
        int r = roll(40);
        if (r == 0) return -1 - roll(2);
        if (r == 1) return most + 1 + roll(2);
        if (r == 2) return most;
        if (r == 3) return 0;
        if (r == 4 && roll(8) == 0) return roll(2) == 0 ? Integer.MIN_VALUE : Integer.MAX_VALUE;
        return most < 0 ? roll(2) : roll(most + 1);
    }

    private static int who() {
        return some(m.now.people.size() - 1);
    }

    private static void same(String call, long got, long want) {
        calls++;
        if (got != want && wrong++ < 20) {
            System.out.println("run " + run + ", call " + calls + ": " + call + " answered " + got + ", due is " + want);
        }
    }

    public static void main(String[] args) {
        for (run = 0; run < RUNS && wrong == 0; run++) {
            x = new ColdestSaysSo();
            m = new Model();
            calls = 0;
            crowd = run % 10 == 0 ? 8 : 1 + roll(6);
            while (calls < CALLS) {
                anyCall();
            }
        }
        System.out.println(wrong == 0 ? "as the model has it" : wrong + " answers are not as the model has them");
        if (wrong != 0) {
            System.exit(1);
        }
    }

    private static void anyCall() {
        int r = roll(10);
        if (r < 2) {
            change();
        } else if (r < 4) {
            shelves();
        } else if (r == 4 && roll(4) == 0) {
            text();
        } else if (r < 7) {
            ask();
        } else if (r < 9) {
            askMore();
        } else {
            askOfRows();
        }
    }

    private static void change() {
        int p = who();
        int q = some(2);
        int v = some(q == 0 ? 20 : q == 1 ? 9 : 40);
        int w = some(3);
        int u = some(w == 0 ? 40 : w == 1 ? 5 : w == 2 ? 999 : 9);
        int k = some(5);
        int a = some(9);
        int pride = some(20);
        int n = 1 + some(roll(4) == 0 ? 59 : 4);
        switch (roll(9)) {
            case 0: case 1:
                if (m.now.people.size() < crowd || roll(20) == 0) {
                    same("person", x.person(k, a, pride), m.person(k, a, pride));
                }
                break;
            case 2: same("give(" + p + ", " + q + ", " + v + ")", x.give(p, q, v), m.give(p, q, v)); break;
            case 3: case 4: same("tell(" + w + ", " + u + ")", x.tell(w, u), m.tell(w, u)); break;
            case 5: same("thaw", x.thaw(), m.thaw()); break;
            case 6: same("days(" + n + ")", x.days(n), m.days(n)); break;
            case 7:
                if (roll(2) == 0) same("drawn(" + n + ")", x.drawn(n), m.drawn(n));
                else if (roll(2) == 0) same("seed", x.seed(u * 77777777), m.seed(u * 77777777));
                break;
            default:
                if (roll(4) == 0) same("image", x.image(), m.image());
                else if (roll(6) == 0) same("back", x.back(), m.back());
        }
    }

    private static void shelves() {
        int s = some(7);
        int t = some(7);
        int i = some(roll(3) == 0 ? 39 : 7);
        int j = some(roll(3) == 0 ? 39 : 7);
        int n = some(roll(3) == 0 ? 40 : 8);
        int sort = some(4);
        int p = roll(5) == 0 ? NONE : who();
        int k = some(5);
        long v = roll(6) == 0 ? (long) roll(1 << 30) << roll(40) : roll(3) == 0 ? roll(44) - 2 : roll(2 + crowd);
        switch (roll(9)) {
            case 0: same("row", x.row(s, sort, n), m.row(s, sort, n)); break;
            case 1: case 2: case 3: same("set(" + s + ", " + i + ", " + v + ")", x.set(s, i, v), m.set(s, i, v)); break;
            case 4: same("copy", x.copy(s, t, i, j, n), m.copy(s, t, i, j, n)); break;
            case 5: same("element(" + s + ", " + i + ")", x.element(s, i), m.element(s, i)); break;
            case 6: same("holds(" + s + ")", x.holds(s), m.holds(s)); break;
            case 7: if (roll(3) == 0) same("show", x.show(s, p), m.show(s, p)); break;
            default: same("says(" + s + ", " + k + ")", x.says(s, k), m.says(s, k));
        }
    }

    private static void text() {
        String[] words = {"person", "feed", "brandy", "air", "fall", "day", "coal"};
        StringBuilder text = new StringBuilder();
        int many = 1 + roll(4);
        for (int i = 0; i < many; i++) {
            text.append(i == 0 ? "" : ";").append("   ", 0, roll(3));
            int w = roll(7);
            if (w == 0 && m.now.people.size() >= crowd && roll(4) > 0) w = 3;
            text.append(words[w]).append(' ');
            if (w == 0) text.append(Math.abs(some(5) % 10)).append(' ').append(roll(10)).append(' ').append(Math.abs(some(20) % 99));
            else if (w < 3) text.append(roll(crowd)).append(' ').append(roll(w == 1 ? 41 : 10));
            else text.append(roll(w == 3 ? 41 : w == 4 ? 6 : w == 5 ? 1003 : 10));
            text.append(" ", 0, roll(2));
        }
        if (roll(3) == 0) {
            char[] odd = {' ', ';', '0', '9', 'a', 'z', '/', ':', '`', '{', 'A', (char) 0, (char) 255, '\n', '1', '-'};
            text.setCharAt(roll(text.length()), odd[roll(odd.length)]);
        }
        if (roll(6) == 0) text.setLength(roll(text.length()));
        if (calls + text.length() + 2 > CALLS) return;
        for (int i = 0; i < text.length(); i++) {
            same("feed", x.feed(text.charAt(i)), m.feed(text.charAt(i)));
        }
        int letter = some(255);
        if (roll(9) == 0) same("feed(" + letter + ")", x.feed(letter), m.feed(letter));
        if (roll(15) == 0) same("wipe", x.wipe(), m.wipe());
        same("country of " + text, x.country(), m.country());
    }

    private static void ask() {
        int p = who();
        int what = some(6);
        int st = some(16);
        int n = some(roll(3) == 0 ? 200 : 12);
        int w1 = some(1);
        int w2 = some(2);
        int k = some(5);
        switch (roll(15)) {
            case 0: same("personOf(" + p + ", " + what + ")", x.personOf(p, what), m.personOf(p, what)); break;
            case 1: same("speaks(" + p + ")", x.speaks(p), m.speaks(p)); break;
            case 2: same("coldest", x.coldest(), m.now.coldest()); break;
            case 3: same("speaking", x.speaking(), m.speaking()); break;
            case 4: same("isSo", x.isSo(), m.now.isSo() ? 1 : 0); break;
            case 5: same("rank(" + p + ")", x.rank(p), m.rank(p)); break;
            case 6: same("when(" + w1 + ")", x.when(w1), m.when(w1)); break;
            case 7: same("ahead(" + n + ", " + w2 + ")", x.ahead(n, w2), m.ahead(n, w2)); break;
            case 8: same("later(" + p + ", " + n + ")", x.later(p, n), m.later(p, n)); break;
            case 9: same("shivering", x.shivering(), m.shivering()); break;
            case 10: same("lead", x.lead(), m.lead()); break;
            case 11: same("quiet", x.quiet(), m.quiet()); break;
            case 12: same("ofKind(" + k + ")", x.ofKind(k), m.ofKind(k)); break;
            default: same("status(" + st + ")", x.status(st), m.status(st));
        }
    }

    private static void askMore() {
        int p = who();
        int t = some(roll(3) == 0 ? 60 : 12);
        int w1 = some(1);
        int w2 = some(2);
        int n = some(m.now.people.size() > 5 ? 2 : m.now.people.size() > 3 ? 3 : 4);
        int o = some(5);
        switch (roll(14)) {
            case 0: same("feeds(" + t + ", " + w2 + ")", x.feeds(t, w2), m.feeds(t, w2)); break;
            case 1: same("warm(" + t + ")", x.warm(t), m.warm(t)); break;
            case 2: same("out(" + w1 + ")", x.out(w1), m.out(w1)); break;
            case 3: same("airs(" + p + ", " + w1 + ")", x.airs(p, w1), m.airs(p, w1)); break;
            case 4: same("byTurns(" + n + ")", x.byTurns(n), m.byTurns(n)); break;
            case 5: same("odds(" + o + ", " + w1 + ")", x.odds(o, w1), m.odds(o, w1)); break;
            case 6: same("warmest", x.warmest(), m.warmest()); break;
            case 7: same("brandyFor(" + p + ")", x.brandyFor(p), m.brandyFor(p)); break;
            case 8: same("fallFor(" + t + ")", x.fallFor(t), m.fallFor(t)); break;
            case 9: same("holdsOut(" + p + ")", x.holdsOut(p), m.one(p) ? m.held(p) : m.refuse(-2)); break;
            case 10: same("toughest(" + w1 + ")", x.toughest(w1), m.toughest(w1)); break;
            case 11: same("second(" + p + ")", x.second(p), m.second(p)); break;
            case 12:
                same("gap(" + p + ")", x.gap(p), m.gap(p));
                same("bites(" + p + ")", x.bites(p), m.bites(p));
                break;
            default: same("all(" + t + ")", x.all(t), m.all(t));
        }
    }

    private static void askOfRows() {
        int s = some(7);
        int n = some(roll(5) == 0 ? 20 : 4);
        int d = some(roll(5) == 0 ? 40 : 8);
        int p = who();
        if (m.now.people.size() > 6 && roll(8) > 0) return;
        if (roll(3) > 0) fillRow(s, n);
        switch (roll(8)) {
            case 0: same("prides(" + s + ", " + n + ", " + p + ")", x.prides(s, n, p), m.prides(s, n, p)); break;
            case 1: same("kinds(" + s + ", " + n + ", " + p + ")", x.kinds(s, n, p), m.kinds(s, n, p)); break;
            case 2: same("clash(" + s + ", " + n + ")", x.clash(s, n), m.clash(s, n)); break;
            case 3: same("orders(" + s + ", " + n + ")", x.orders(s, n), m.bowls(s, n, 0)); break;
            case 4: same("next(" + s + ", " + n + ")", x.next(s, n), m.bowls(s, n, 1)); break;
            case 5: same("mayBe(" + s + ", " + n + ")", x.mayBe(s, n), m.bowls(s, n, 2)); break;
            case 6: same("wrongBowls(" + s + ", " + n + ")", x.wrongBowls(s, n), m.bowls(s, n, 3)); break;
            default: same("judge(" + s + ", " + d + ")", x.judge(s, d), m.judge(s, d));
        }
    }

    /** A ROW that tells something true, mostly: AIR and SPOKE, AIR and COLD, BOWLS or a LOG. */
    private static void fillRow(int s, int n) {
        int size = Math.max(0, Math.min(40, 2 * Math.max(0, Math.min(20, n)) + roll(4)));
        int sort = roll(4);
        same("row", x.row(s, sort, size), m.row(s, sort, size));
        if (s < 0 || s > 7 || m.now.people.isEmpty()) return;
        int tells = roll(4);
        int p = roll(m.now.people.size());
        int kind = roll(6);
        for (int i = 0; i + 1 < size; i += 2) {
            int air = roll(41);
            Land l = m.now.withAir(air);
            int one = roll(m.now.people.size());
            int other = roll(m.now.people.size());
            long first = tells < 2 ? air : tells == 2 ? Math.min(one, other) : m.now.behind(i).coldest();
            long then = tells == 0 ? (l.speaks(l.people.get(p)) ? 1 : 0)
                    : tells == 1 ? l.cold(l.people.get(p), roll(3) == 0 ? kind : l.people.get(p).kind)
                    : tells == 2 ? Math.max(one, other) : m.now.behind(i + 1).coldest();
            if (tells == 2 && one == other && roll(6) > 0) then = (first + 1) % m.now.people.size();
            if (roll(25) == 0) then = roll(12) - 2;
            same("set", x.set(s, i, first), m.set(s, i, first));
            same("set", x.set(s, i + 1, then), m.set(s, i + 1, then));
        }
    }
}
