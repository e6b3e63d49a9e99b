import java.math.BigInteger;
import java.util.ArrayDeque;
import java.util.ArrayList;
import java.util.Arrays;
import java.util.Collections;
import java.util.Deque;
import java.util.List;
import java.util.Random;
import java.util.regex.Matcher;
import java.util.regex.Pattern;

/**
 * Long runs of calls, right and wrong ones, on the class and on a second program that was
 * written from the document another way; each answer must be the same.
 */
public final class ModelTest {
    private static final int RUNS = 1000;
    private static final int CALLS = 460;
    private static int wrong = 0;
    private static long answers = 0;

    public static void main(String[] args) {
        for (int run = 0; run < RUNS && wrong < 10; run++) {
            oneRun(new Random(run));
        }
        System.out.println("ModelTest: " + answers + " answers, " + wrong + " not as due");
        if (wrong != 0) {
            System.exit(1);
        }
    }

    private static void oneRun(Random r) {
        DustVote x = new DustVote();
        Model m = new Model();
        if (r.nextInt(10) > 0) {
            writeCity(r, x, m);
        }
        StringBuilder told = new StringBuilder(m.text);
        for (int i = 0; i < CALLS; i++) {
            if (r.nextInt(150) == 0) {
                same(told, "wipe", x.wipe(), m.wipe());
                writeCity(r, x, m);
                i += m.text.length() + 2;
                told.append(" | ").append(m.text);
            } else {
                oneCall(r, x, m, told);
            }
            if (wrong > 0) {
                return;
            }
        }
    }

    private static void same(StringBuilder told, String call, long got, long want) {
        answers++;
        told.append(' ').append(call);
        if (got != want) {
            wrong++;
            System.out.println("run: " + told + " answered " + got + ", due is " + want);
        }
    }

    private static void writeCity(Random r, DustVote x, Model m) {
        StringBuilder text = new StringBuilder("B");
        int most = r.nextInt(10) + 1;
        for (int s = 0; s < 8; s++) {
            text.append(r.nextInt(most));
        }
        int brooms = r.nextInt(6);
        int falls = r.nextInt(6);
        int heavy = r.nextInt(10);
        while (brooms + falls > 0) {
            if (r.nextInt(brooms + falls) < brooms) {
                brooms--;
                text.append('N').append(r.nextInt(8)).append(1 + r.nextInt(9)).append(r.nextInt(4));
            } else {
                falls--;
                text.append('F').append(r.nextInt(8)).append(Math.max(heavy, r.nextInt(10)));
            }
        }
        if (r.nextInt(6) == 0) {
            text.setCharAt(r.nextInt(text.length()), (char) (r.nextBoolean() ? 47 + r.nextInt(12) : r.nextInt(256)));
        }
        if (r.nextInt(6) == 0) {
            text.setLength(r.nextInt(text.length() + 1));
        }
        if (r.nextInt(6) == 0) {
            text.append("NF0".charAt(r.nextInt(3)));
        }
        StringBuilder told = new StringBuilder("write " + text);
        for (int i = 0; i < text.length(); i++) {
            same(told, "write", x.write(text.charAt(i)), m.write(text.charAt(i)));
        }
        same(told, "fault", x.fault(), m.fault());
        same(told, "city", x.city(), m.city());
    }

    /** A number that is mostly from least to most, at times just beyond, at times far out. */
    private static int number(Random r, int least, int most) {
        switch (r.nextInt(16)) {
            case 0:
                return least - 1;
            case 1:
                return most + 1;
            case 2:
                return r.nextInt(6) == 0 ? r.nextInt() : most;
            default:
                return least + r.nextInt(most - least + 1);
        }
    }

    private static int broomOf(Random r, Model m) {
        return number(r, 0, Math.max(0, m.brooms.size() - 1));
    }

    private static long rowOf(Random r, Model m, int n) {
        if (r.nextInt(12) == 0) {
            return r.nextBoolean() ? r.nextLong() : (long) Math.pow(1000, Math.min(5, Math.max(0, n))) - r.nextInt(2);
        }
        long row = 0;
        for (int i = 0; i < n && i < 5; i++) {
            int b = r.nextInt(6);
            int s = r.nextInt(9);
            int[] doing = {0, 100 + 10 * b + r.nextInt(2), 200, 300 + b, 400 + s, 500 + 10 * s + r.nextInt(10), 600 + s,
                r.nextInt(1000)};
            row = row * 1000 + doing[r.nextInt(doing.length)];
        }
        return row;
    }

    private static void oneCall(Random r, DustVote x, Model m, StringBuilder told) {
        int a = number(r, 0, 7);
        int w = number(r, 0, 1);
        int b = broomOf(r, m);
        int n = number(r, 1, 9);
        boolean up = r.nextBoolean();
        switch (r.nextInt(46)) {
            case 0: { int l = number(r, 0, 255); same(told, "write(" + l + ")", x.write(l), m.write(l)); break; }
            case 1: same(told, "fault", x.fault(), m.fault()); break;
            case 2: if (r.nextInt(20) == 0) { same(told, "city", x.city(), m.city()); } break;
            case 3: { int q = number(r, 0, 2); same(told, "street(" + a + "," + q + ")", x.street(a, q), m.street(a, q)); break; }
            case 4: { int q = number(r, 0, 4); same(told, "broom(" + b + "," + q + ")", x.broom(b, q), m.broom(b, q)); break; }
            case 5: case 6: case 7: case 8: case 9: case 10: case 11: same(told, "dawn", x.dawn(), m.dawn()); break;
            case 12: case 13: same(told, "walk(" + b + "," + w + ")", x.walk(b, w), m.walk(b, w)); break;
            case 14: if (r.nextInt(3) == 0) { same(told, "vote", x.vote(), m.vote()); } break;
            case 15: if (r.nextInt(5) == 0) { same(told, "bend(" + b + ")", x.bend(b), m.bend(b)); } break;
            case 16: if (r.nextInt(4) == 0) { same(told, "hand(" + a + ")", x.hand(a), m.hand(a)); } break;
            case 17: same(told, "undo", x.undo(), m.undo()); break;
            case 18: case 19: { int k = number(r, 0, 30); same(told, "dust(" + a + "," + k + ")", x.dust(a, k), m.dust(a, k)); break; }
            case 20: { int k = number(r, 0, 30); same(told, "knees(" + k + ")", x.knees(k), m.knees(k)); break; }
            case 21: case 22: same(told, "knee(" + w + ")", x.knee(w), m.knee(w)); break;
            case 23: case 24: same(told, "best(" + b + "," + n + "," + w + ")", x.best(b, n, w), m.best(b, n, w)); break;
            case 25: case 26: same(told, "bends(" + n + ")", x.bends(n), m.bends(n)); break;
            case 27: case 28: case 29: { int k = number(r, 1, 4); long row = rowOf(r, m, k);
                same(told, "judge(" + k + "," + row + ")", x.judge(k, row), m.judge(k, row)); break; }
            case 30: { int d = number(r, 0, 20), p = 1 + r.nextInt(9), g = r.nextInt(20) == 0 ? number(r, 0, 9) : Math.min(d, p) * r.nextInt(2);
                int left = r.nextInt(9) == 0 ? number(r, 0, 20) : d - Math.min(d, p);
                same(told, "heap(" + d + "," + left + "," + g + ")", x.heap(d, left, g), m.heap(d, left, g)); break; }
            case 31: if (r.nextInt(4) == 0) { same(told, "unheap", x.unheap(), m.unheap()); } break;
            case 32: same(told, "whose(" + w + ")", x.whose(w), m.whose(w)); break;
            case 33: case 34: same(told, "share(" + b + "," + up + ")", x.share(b, up), m.share(b, up)); break;
            case 35: case 36: case 37: { int c = broomOf(r, m); same(told, "rests(" + b + "," + c + "," + w + ")", x.rests(b, c, w), m.rests(b, c, w)); break; }
            case 38: case 39: { int k = number(r, 1, 6), t = number(r, 0, 10);
                same(told, "twice(" + a + "," + k + "," + t + "," + up + ")", x.twice(a, k, t, up), m.twice(a, k, t, up)); break; }
            case 40: { long v = r.nextBoolean() ? r.nextLong() : r.nextInt(10); same(told, "seed(" + v + ")", x.seed(v), m.seed(v)); break; }
            case 41: case 42: { int k = number(r, 1, 30); same(told, "years(" + k + ")", x.years(k), m.years(k)); break; }
            case 43: same(told, "keep(" + w + ")", x.keep(w), m.keep(w)); break;
            case 44: if (r.nextInt(3) == 0) { same(told, "again(" + w + ")", x.again(w), m.again(w)); } break;
            default: { int q = number(r, 0, 9); same(told, "count(" + q + ")", x.count(q), m.count(q)); break; }
        }
    }

    /** A broom as told: it never changes. */
    private record Broom(int home, int strength, int kind) { }

    /** A fall as told. */
    private record Fall(int street, int dust) { }

    /** All that changes, made anew by every step. */
    private record Time(List<Integer> dust, List<Integer> where, boolean vote, List<Boolean> bent, int dawn) {
        int sum() {
            return dust.stream().mapToInt(Integer::intValue).sum();
        }

        List<Integer> deep() {
            List<Integer> deep = new ArrayList<>();
            for (int s = 0; s < 8; s++) {
                if (dust.get(s) > 9) {
                    deep.add(s);
                }
            }
            return deep;
        }

        int deepBits() {
            return deep().stream().mapToInt(s -> (int) Math.pow(2, s)).sum();
        }

        Time at(int broom, int street) {
            return new Time(dust, with(where, broom, street), vote, bent, dawn);
        }

        Time step(int broom, int side) {
            return at(broom, Math.floorMod(where.get(broom) + (side == 1 ? 1 : -1), 8));
        }

        Time turned() {
            return new Time(dust, where, !vote, bent, dawn);
        }

        Time bowed(int broom) {
            return new Time(dust, where, vote, with(bent, broom, true), dawn);
        }

        Time cleared(int street) {
            return new Time(with(dust, street, 0), where, vote, bent, dawn);
        }

        static <T> List<T> with(List<T> list, int i, T value) {
            List<T> copy = new ArrayList<>(list);
            copy.set(i, value);
            return Collections.unmodifiableList(copy);
        }
    }

    /** The document once more, as plainly as may be. */
    private static final class Model {
        private static final Pattern CITY = Pattern.compile("B[0-9]{8}(N[0-7][1-9][0-3]|F[0-7][0-9])*", Pattern.DOTALL);
        String text = "";
        List<Broom> brooms = new ArrayList<>();
        List<Fall> falls = new ArrayList<>();
        Time now = new Time(Collections.nCopies(8, 0), List.of(), false, List.of(), 0);
        Deque<Time> acts = new ArrayDeque<>();
        Time[] kept = new Time[2];
        List<int[]> heaps = new ArrayList<>();
        BigInteger seed = BigInteger.ZERO;

        int write(int letter) {
            if (letter < 0 || letter > 255) {
                return -2;
            }
            if (text.length() == 48) {
                return -4;
            }
            text += (char) letter;
            return text.length();
        }

        int wipe() {
            int was = text.length();
            text = "";
            return was;
        }

        static long often(String s, char c) {
            return s.chars().filter(d -> d == c).count();
        }

        /** Could this prefix still become a city? */
        static boolean hopeful(String s) {
            Matcher matcher = CITY.matcher(s);
            boolean whole = matcher.matches();
            return (whole || matcher.hitEnd()) && often(s, 'N') <= 5 && often(s, 'F') <= 5;
        }

        int fault() {
            for (int i = 0; i < text.length(); i++) {
                if (!hopeful(text.substring(0, i + 1))) {
                    return i;
                }
            }
            return CITY.matcher(text).matches() ? -9 : text.length();
        }

        int city() {
            if (fault() != -9) {
                return -3;
            }
            brooms.clear();
            falls.clear();
            Matcher part = Pattern.compile("N(.)(.)(.)|F(.)(.)").matcher(text);
            while (part.find()) {
                if (part.group(1) != null) {
                    brooms.add(new Broom(Integer.parseInt(part.group(1)), Integer.parseInt(part.group(2)), Integer.parseInt(part.group(3))));
                } else {
                    falls.add(new Fall(Integer.parseInt(part.group(4)), Integer.parseInt(part.group(5))));
                }
            }
            List<Integer> dust = new ArrayList<>();
            for (char c : text.substring(1, 9).toCharArray()) {
                dust.add(c - '0');
            }
            now = new Time(dust, brooms.stream().map(Broom::home).toList(), false, Collections.nCopies(brooms.size(), false), 0);
            acts.clear();
            Arrays.fill(kept, null);
            return brooms.size() * 10 + falls.size();
        }

        static boolean noStreet(int s) {
            return s < 0 || s > 7;
        }

        boolean noBroom(int b) {
            return b < 0 || b >= brooms.size();
        }

        int street(int s, int what) {
            if (noStreet(s)) {
                return -1;
            }
            if (what == 0) {
                return now.dust.get(s);
            }
            if (what == 1) {
                return now.deep().contains(s) ? 1 : 0;
            }
            if (what != 2) {
                return -2;
            }
            int bits = 0;
            for (int b = brooms.size() - 1; b >= 0; b--) {
                bits = bits * 2 + (now.where.get(b) == s ? 1 : 0);
            }
            return bits;
        }

        int as(Time t, int b) {
            int kind = brooms.get(b).kind;
            boolean willing = t.vote || t.bent.get(b);
            return kind % 2 == 0 ? kind : willing ? 0 : kind;
        }

        int broom(int b, int what) {
            if (noBroom(b)) {
                return -1;
            }
            if (what < 0 || what > 4) {
                return -2;
            }
            return new int[] {now.where.get(b), brooms.get(b).strength, brooms.get(b).kind, now.bent.get(b) ? 1 : 0, as(now, b)}[what];
        }

        /** A dawn in which only those work who are in the list, and the fall comes so many times. */
        Time next(Time t, List<Integer> workers, int times) {
            int[] dust = t.dust.stream().mapToInt(Integer::intValue).toArray();
            if (!falls.isEmpty()) {
                Fall fall = falls.get(t.dawn % falls.size());
                dust[fall.street] = Math.min(99, dust[fall.street] + times * fall.dust);
            }
            for (int b = 0; b < brooms.size(); b++) {
                if (!workers.contains(b)) {
                    continue;
                }
                int s = t.where.get(b);
                int right = (s + 1) % 8;
                int left = (s + 7) % 8;
                int p = brooms.get(b).strength;
                int as = as(t, b);
                int old = dust[s];
                if (as != 3) {
                    dust[s] = Math.max(0, dust[s] - p);
                }
                if (as == 1) {
                    dust[right] = Math.min(99, dust[right] + old - dust[s]);
                }
                if (as == 2) {
                    dust[left] = Math.max(0, dust[left] - p / 2);
                    dust[right] = Math.max(0, dust[right] - p / 2);
                }
            }
            List<Integer> then = new ArrayList<>();
            for (int s = 0; s < 8; s++) {
                int own = dust[s] > 9 ? dust[s] - 2 : dust[s];
                own += (dust[(s + 1) % 8] > 9 ? 1 : 0) + (dust[(s + 7) % 8] > 9 ? 1 : 0);
                then.add(Math.min(99, own));
            }
            return new Time(then, t.where, t.vote, t.bent, t.dawn + 1);
        }

        List<Integer> all() {
            List<Integer> all = new ArrayList<>();
            for (int b = 0; b < brooms.size(); b++) {
                all.add(b);
            }
            return all;
        }

        Time after(Time t, int n) {
            return after(t, n, all());
        }

        Time after(Time t, int n, List<Integer> workers) {
            return n == 0 ? t : after(next(t, workers, 1), n - 1, workers);
        }

        void act(Time then) {
            acts.addLast(now);
            if (acts.size() > 14) {
                acts.removeFirst();
            }
            now = then;
        }

        int dawn() {
            act(after(now, 1));
            return now.sum();
        }

        int walk(int b, int side) {
            if (noBroom(b)) {
                return -1;
            }
            if (side != 0 && side != 1) {
                return -2;
            }
            act(now.step(b, side));
            return now.where.get(b);
        }

        int vote() {
            act(now.turned());
            return now.vote ? 1 : 0;
        }

        int bend(int b) {
            if (noBroom(b)) {
                return -1;
            }
            if (now.bent.get(b)) {
                return -3;
            }
            act(now.bowed(b));
            return Collections.frequency(now.bent, true);
        }

        int hand(int s) {
            if (noStreet(s)) {
                return -1;
            }
            int had = now.dust.get(s);
            if (had == 0) {
                return -3;
            }
            act(now.cleared(s));
            return had;
        }

        int undo() {
            if (acts.isEmpty()) {
                return -3;
            }
            now = acts.removeLast();
            return acts.size();
        }

        int dust(int s, int n) {
            return noStreet(s) ? -1 : n < 0 || n > 30 ? -2 : after(now, n).dust.get(s);
        }

        int knees(int n) {
            return n < 0 || n > 30 ? -2 : after(now, n).deepBits();
        }

        int knee(int what) {
            if (what != 0 && what != 1) {
                return -2;
            }
            for (int n = 0; n < 31; n++) {
                List<Integer> deep = after(now, n).deep();
                if (!deep.isEmpty()) {
                    return what == 0 ? n : deep.get(0);
                }
            }
            return -9;
        }

        int best(int b, int n, int what) {
            if (noBroom(b)) {
                return -1;
            }
            if (n < 1 || n > 9 || what < 0 || what > 1) {
                return -2;
            }
            List<Integer> sums = new ArrayList<>();
            for (int s = 0; s < 8; s++) {
                sums.add(after(now.at(b, s), n).sum());
            }
            int least = Collections.min(sums);
            return what == 0 ? sums.indexOf(least) : least;
        }

        int bends(int n) {
            if (n < 1 || n > 9) {
                return -2;
            }
            for (int size = 0; size <= brooms.size(); size++) {
                for (int set = 0; set < Math.pow(2, brooms.size()); set++) {
                    if (Integer.bitCount(set) == size && serves(set, n)) {
                        return set;
                    }
                }
            }
            return -9;
        }

        boolean serves(int set, int n) {
            Time t = now;
            for (int b = 0; b < brooms.size(); b++) {
                if ((set & (1 << b)) != 0) {
                    if (t.bent.get(b)) {
                        return false;
                    }
                    t = t.bowed(b);
                }
            }
            for (int k = 1; k <= n; k++) {
                if (!after(t, k).deep().isEmpty()) {
                    return false;
                }
            }
            return true;
        }

        int judge(int n, long row) {
            if (n < 1 || n > 4 || row < 0 || Long.toString(row).length() > 3 * n) {
                return -2;
            }
            String figures = String.format("%0" + 3 * n + "d", row);
            Time t = now;
            for (int i = 0; i < n; i++) {
                t = told(t, figures.substring(3 * i, 3 * i + 3));
                if (t == null) {
                    return i;
                }
            }
            return -9;
        }

        /** The time behind a told doing; null if it can not be. */
        Time told(Time t, String doing) {
            int second = doing.charAt(1) - '0';
            int third = doing.charAt(2) - '0';
            if (doing.equals("000")) {
                return after(t, 1);
            }
            if (doing.matches("1[0-4][01]")) {
                return noBroom(second) ? null : t.step(second, third);
            }
            if (doing.equals("200")) {
                return t.turned();
            }
            if (doing.matches("30[0-4]")) {
                return noBroom(third) || t.bent.get(third) ? null : t.bowed(third);
            }
            if (doing.matches("40[0-7]")) {
                return t.dust.get(third) == 0 ? null : t.cleared(third);
            }
            if (doing.matches("5[0-7][0-9]")) {
                return t.dust.get(second) >= third ? t : null;
            }
            if (doing.matches("60[0-7]")) {
                return t.deep().contains(third) ? t : null;
            }
            return null;
        }

        int heap(int d, int r, int g) {
            if (d < 0 || d > 20 || r < 0 || r > 20 || g < 0 || g > 9) {
                return -2;
            }
            if (heaps.size() == 6) {
                return -4;
            }
            heaps.add(new int[] {d, r, g});
            return heaps.size();
        }

        int unheap() {
            int were = heaps.size();
            heaps.clear();
            return were;
        }

        int whose(int what) {
            if (what != 0 && what != 1) {
                return -2;
            }
            List<Integer> fit = new ArrayList<>();
            for (int code = 1; code <= 19; code++) {
                int p = code % 10;
                boolean striker = code > 10;
                boolean all = p > 0;
                for (int[] h : heaps) {
                    int r = Math.max(0, h[0] - p);
                    all &= h[1] == r && h[2] == (striker ? h[0] - r : 0);
                }
                if (all) {
                    fit.add(code);
                }
            }
            return what == 0 ? fit.size() : fit.isEmpty() ? -9 : fit.get(0);
        }

        static int told(BigInteger above, BigInteger below, boolean upper) {
            BigInteger common = above.gcd(below);
            return (upper ? above : below).divide(common).intValueExact();
        }

        int share(int b, boolean upper) {
            if (noBroom(b)) {
                return -1;
            }
            long[] sums = new long[2];
            orders(new ArrayList<>(), b, sums);
            return told(BigInteger.valueOf(sums[0]), BigInteger.valueOf(sums[1]), upper);
        }

        /** Goes through every order; an order ends for the sum when the broom has come. */
        void orders(List<Integer> came, int b, long[] sums) {
            if (came.size() == brooms.size()) {
                int at = came.indexOf(b);
                sums[0] += worth(came.subList(0, at)) - worth(came.subList(0, at + 1));
                sums[1]++;
                return;
            }
            for (int next : all()) {
                if (!came.contains(next)) {
                    came.add(next);
                    orders(came, b, sums);
                    came.remove(came.size() - 1);
                }
            }
        }

        int worth(List<Integer> came) {
            return after(now, 6, came).sum();
        }

        int rests(int one, int other, int what) {
            if (noBroom(one) || noBroom(other)) {
                return -1;
            }
            if (one == other || what < 0 || what > 1) {
                return -2;
            }
            int[][][] has = new int[2][2][2];
            for (int a = 0; a < 2; a++) {
                for (int c = 0; c < 2; c++) {
                    List<Integer> workers = all();
                    if (a == 0) {
                        workers.remove((Integer) one);
                    }
                    if (c == 0) {
                        workers.remove((Integer) other);
                    }
                    Time t = after(now, 3, workers);
                    has[a][c][0] = 20 - t.dust.get(t.where.get(one)) - 4 * a;
                    has[a][c][1] = 20 - t.dust.get(t.where.get(other)) - 4 * c;
                }
            }
            List<Integer> rests = new ArrayList<>();
            for (int a = 0; a < 2; a++) {
                for (int c = 0; c < 2; c++) {
                    if (has[1 - a][c][0] <= has[a][c][0] && has[a][1 - c][1] <= has[a][c][1]) {
                        rests.add(10 * a + c);
                    }
                }
            }
            return what == 0 ? rests.size() : rests.isEmpty() ? -9 : rests.get(0);
        }

        int twice(int s, int n, int x, boolean upper) {
            if (noStreet(s)) {
                return -1;
            }
            if (n < 1 || n > 6 || x < 0 || x > 10) {
                return -2;
            }
            return told(BigInteger.valueOf(chances(now, s, n, x)), BigInteger.TEN.pow(n), upper);
        }

        long chances(Time t, int s, int n, int x) {
            if (n == 0) {
                return t.deep().contains(s) ? 1 : 0;
            }
            return x * chances(next(t, all(), 2), s, n - 1, x) + (10 - x) * chances(next(t, all(), 1), s, n - 1, x);
        }

        long seed(long v) {
            long was = seed.longValue();
            seed = BigInteger.valueOf(v);
            return was;
        }

        int years(int m) {
            if (m < 1 || m > 30) {
                return -2;
            }
            BigInteger size = BigInteger.TWO.pow(64);
            Time t = now;
            int together = 0;
            for (int i = 0; i < m; i++) {
                seed = seed.multiply(new BigInteger("6364136223846793005")).add(new BigInteger("1442695040888963407")).mod(size);
                int lot = seed.divide(BigInteger.TWO.pow(33)).mod(BigInteger.valueOf(32)).intValue();
                if (lot > 18) {
                    t = after(t, 1);
                } else if (lot > 10) {
                    t = t.cleared(lot - 11);
                } else if (lot == 10) {
                    t = t.turned();
                } else if (!noBroom(lot / 2)) {
                    t = t.step(lot / 2, lot % 2);
                }
                together += t.sum();
            }
            return together;
        }

        int keep(int slot) {
            if (slot != 0 && slot != 1) {
                return -1;
            }
            kept[slot] = now;
            return now.dawn;
        }

        int again(int slot) {
            if (slot != 0 && slot != 1) {
                return -1;
            }
            if (kept[slot] == null) {
                return -3;
            }
            now = kept[slot];
            acts.clear();
            return now.dawn;
        }

        int count(int what) {
            int bent = 0;
            for (int b = 0; b < brooms.size(); b++) {
                bent += now.bent.get(b) ? 1 << b : 0;
            }
            int[] all = {text.length(), brooms.size(), falls.size(), now.dawn, now.sum(), now.deepBits(), now.vote ? 1 : 0, bent,
                acts.size(), heaps.size()};
            return what < 0 || what > 9 ? -2 : all[what];
        }
    }
}
