import java.math.BigInteger;
import java.util.ArrayList;
import java.util.Arrays;
import java.util.List;
import java.util.regex.Matcher;
import java.util.regex.Pattern;

/**
 * The document once more, slowly: every answer comes from the list of deeds by going through all
 * cases, so that it shares no shortcut with the class under test.
 */
final class UsherModel {
    static final int BAD = -1, FULL = -2, FINDING = -3, STATE = -4, NONE = -9;
    private static final String LETTERS = "wrmgpl";
    private static final String PERSON = "o(?:2[01]|3[0-2]|4[0-3]|5[0-4]|6[0-5]|7[0-6])";

    private final int[][] rows = new int[6][];
    private final byte[][] texts = new byte[4][];
    private int rest = 0;
    private List<int[]> people = new ArrayList<>();
    private List<int[]> ways = new ArrayList<>();
    private List<Integer> deeds = new ArrayList<>();
    private final List<List<Integer>> kept = new ArrayList<>(Arrays.asList(null, null, null));
    private int asked = 0;
    private BigInteger upper = BigInteger.ZERO;
    private BigInteger lower = BigInteger.ONE;
    private int finding = 0;
    private final int[] findings = new int[6];

    private int finds(int f) {
        finding = f;
        findings[f]++;
        return FINDING;
    }

    private static boolean in(int v, int low, int high) {
        return low <= v && v <= high;
    }

    int row(int r, int n) {
        if (!in(r, 0, 5) || n > 40) return BAD;
        if (n < 0) return finds(5);
        rows[r] = new int[n];
        return n;
    }

    private int place(int r, int i) {
        if (!in(r, 0, 5)) return BAD;
        if (rows[r] == null) return finds(1);
        if (!in(i, 0, rows[r].length - 1)) return finds(2);
        asked = rows[r][i];
        return 1;
    }

    int lay(int r, int i, int v) {
        int answer = place(r, i);
        if (answer == 1) rows[r][i] = v;
        return answer;
    }

    int at(int r, int i) {
        return place(r, i);
    }

    int tear(int r) {
        if (!in(r, 0, 5)) return BAD;
        if (rows[r] == null) return finds(1);
        rows[r] = null;
        return 1;
    }

    int copy(int r, int i, int to, int j, int n) {
        if (!in(r, 0, 5) || !in(to, 0, 5)) return BAD;
        if (n < 0) return finds(5);
        if (rows[r] == null || rows[to] == null) return finds(1);
        if (i < 0 || j < 0 || (long) i + n > rows[r].length || (long) j + n > rows[to].length) return finds(2);
        int[] taken = Arrays.copyOfRange(rows[r], i, i + n);
        for (int k = 0; k < n; k++) rows[to][j + k] = taken[k];
        return 1;
    }

    int mean(int r) {
        if (!in(r, 0, 5)) return BAD;
        if (rows[r] == null) return finds(1);
        if (rows[r].length == 0) return finds(4);
        BigInteger sum = BigInteger.ZERO;
        for (int v : rows[r]) sum = sum.add(BigInteger.valueOf(v));
        asked = sum.divide(BigInteger.valueOf(rows[r].length)).intValueExact();
        return 1;
    }

    int text(int t, int n) {
        if (!in(t, 0, 3) || n > 60) return BAD;
        if (n < 0) return finds(5);
        texts[t] = new byte[n];
        Arrays.fill(texts[t], (byte) 32);
        return n;
    }

    int put(int t, int i, int v) {
        if (!in(t, 0, 3)) return BAD;
        if (texts[t] == null) return finds(1);
        if (!in(i, 0, texts[t].length - 1)) return finds(2);
        int before = texts[t][i];
        texts[t][i] = (byte) v;
        return before + 1000;
    }

    private static Pattern courtOf(int many) {
        return Pattern.compile(" *+k[0-6] *+(?:" + PERSON + " *+){" + many + "}"
                + "(?:[" + LETTERS + "][0-9][0-" + ((1 << many) - 1) + "] *+){1,7}");
    }

    private static final Pattern[] COURTS = {courtOf(0), courtOf(1), courtOf(2), courtOf(3)};

    private static boolean mayGoOn(String start) {
        for (Pattern p : COURTS) {
            Matcher m = p.matcher(start);
            if (m.matches() || m.hitEnd()) return true;
        }
        return false;
    }

    private static boolean isCourt(String words) {
        for (Pattern p : COURTS) if (p.matcher(words).matches()) return true;
        return false;
    }

    private String words(int t) {
        StringBuilder s = new StringBuilder();
        for (byte b : texts[t]) s.append((char) (b & 255));
        return s.toString();
    }

    int fault(int t) {
        if (!in(t, 0, 3)) return BAD;
        if (texts[t] == null) return finds(1);
        String words = words(t);
        for (int i = 0; i < words.length(); i++) {
            if (!mayGoOn(words.substring(0, i + 1))) return i;
        }
        return isCourt(words) ? NONE : words.length();
    }

    int court(int t) {
        if (!in(t, 0, 3)) return BAD;
        if (texts[t] == null) return finds(1);
        if (fault(t) != NONE) return STATE;
        String words = words(t).replace(" ", "");
        rest = words.charAt(1) - '0';
        people = new ArrayList<>();
        ways = new ArrayList<>();
        for (int i = 2; i < words.length(); i += 3) {
            int a = words.charAt(i + 1) - '0';
            int b = words.charAt(i + 2) - '0';
            if (words.charAt(i) == 'o') people.add(new int[] {a, b});
            else ways.add(new int[] {LETTERS.indexOf(words.charAt(i)), a, b});
        }
        deeds = new ArrayList<>();
        for (int k = 0; k < 3; k++) kept.set(k, null);
        return ways.size();
    }

    private boolean isWay(int w) {
        return in(w, 0, ways.size() - 1);
    }

    private static boolean riot(int kind) {
        return kind == 1 || kind == 4;
    }

    private static boolean mimed(int kind) {
        return kind == 2 || kind == 5;
    }

    private int kind(int w) {
        return ways.get(w)[0];
    }

    private static int trouble(int kind, int told) {
        return kind == 4 ? told + told : mimed(kind) ? told / 2 : told;
    }

    private int trouble(int w) {
        return trouble(kind(w), ways.get(w)[1]);
    }

    private int needs(int w) {
        return kind(w) == 4 ? 0 : ways.get(w)[2];
    }

    private int pause(int w) {
        return mimed(kind(w)) ? rest / 2 : rest;
    }

    private int gone(int day) {
        int bits = 0;
        for (int p = 0; p < people.size(); p++) {
            if (day % people.get(p)[0] == people.get(p)[1]) bits |= 1 << p;
        }
        return bits;
    }

    /** Whether a WAY can be done behind these deeds, if this set is away. */
    private boolean fits(int w, List<Integer> done, int goneThen) {
        int day = done.size();
        for (int back = 1; back <= pause(w) && back <= day; back++) {
            if (done.get(day - back) == w) return false;
        }
        int ahead = day == 0 ? -1 : done.get(day - 1);
        if (riot(kind(w)) && ahead >= 0 && riot(kind(ahead))) return false;
        if (kind(w) == 3 && ahead < 0) return false;
        if (kind(w) == 5 && day % 5 != 0) return false;
        return (needs(w) & goneThen) == 0;
    }

    private boolean fits(int w, List<Integer> done) {
        return fits(w, done, gone(done.size()));
    }

    private int fact(int w, int what) {
        switch (what) {
            case 0: return kind(w);
            case 1: return trouble(w);
            case 2: return needs(w);
            case 3: return deeds.lastIndexOf(w) < 0 ? NONE : deeds.lastIndexOf(w);
            case 4: return (int) deeds.stream().filter(d -> d == w).count();
            default: return fits(w, deeds) ? 1 : 0;
        }
    }

    int way(int w, int what) {
        if (!isWay(w) || !in(what, 0, 5)) return BAD;
        asked = fact(w, what);
        return 1;
    }

    int mark(int w, int kind) {
        if (!isWay(w) || !in(kind, 1, 5)) return BAD;
        int own = kind(w);
        boolean is = own == kind || kind == 1 && own == 4 || kind == 2 && own == 5;
        if (!is) return finds(3);
        if (kind == 1) {
            int others = 0;
            for (int v = 0; v < ways.size(); v++) if (v != w && riot(kind(v))) others++;
            return others;
        }
        if (kind == 2) return rest / 2 + 1;
        if (kind == 3) return deeds.isEmpty() || deeds.get(deeds.size() - 1) < 0 ? 0 : 1;
        if (kind == 4) return Integer.bitCount(ways.get(w)[2]);
        int days = 0;
        while ((deeds.size() + days) % 5 != 0) days++;
        return days;
    }

    int away(int day) {
        return in(day, 0, 999) ? gone(day) : BAD;
    }

    int fall(int w) {
        if (!isWay(w)) return BAD;
        if (!fits(w, deeds)) return STATE;
        if (deeds.size() == 40) return FULL;
        deeds.add(w);
        return trouble(w);
    }

    int night() {
        if (ways.isEmpty()) return STATE;
        if (deeds.size() == 40) return FULL;
        deeds.add(-1);
        return deeds.size();
    }

    int undo(int n) {
        if (!in(n, 0, deeds.size())) return BAD;
        int many = deeds.size() - n;
        deeds = new ArrayList<>(deeds.subList(0, n));
        return many;
    }

    int keep(int k) {
        if (!in(k, 0, 2)) return BAD;
        if (ways.isEmpty()) return STATE;
        kept.set(k, new ArrayList<>(deeds));
        return deeds.size();
    }

    int on(int k) {
        if (!in(k, 0, 2)) return BAD;
        if (kept.get(k) == null) return finds(1);
        deeds = new ArrayList<>(kept.get(k));
        return deeds.size();
    }

    int can() {
        int bits = 0;
        for (int w = 0; w < ways.size(); w++) if (fits(w, deeds)) bits |= 1 << w;
        return bits;
    }

    /** All PLANS of n DAYS, in their order. */
    private List<int[]> allPlans(int n) {
        List<int[]> all = new ArrayList<>();
        addPlans(new ArrayList<>(deeds), n, new int[n], 0, all);
        return all;
    }

    private void addPlans(List<Integer> done, int n, int[] plan, int k, List<int[]> all) {
        if (k == n) {
            all.add(plan.clone());
            return;
        }
        for (int w = 0; w < ways.size(); w++) {
            if (!fits(w, done)) continue;
            plan[k] = w;
            done.add(w);
            addPlans(done, n, plan, k + 1, all);
            done.remove(done.size() - 1);
        }
    }

    private void tell(long up, long low) {
        BigInteger a = BigInteger.valueOf(up);
        BigInteger b = BigInteger.valueOf(low);
        BigInteger g = a.gcd(b);
        upper = a.divide(g);
        lower = b.divide(g);
    }

    int plans(int n) {
        if (!in(n, 0, 6)) return BAD;
        if (ways.isEmpty()) return STATE;
        tell(allPlans(n).size(), 1);
        return 1;
    }

    int least(int n, int r) {
        if (!in(n, 0, 6) || !in(r, 0, 5)) return BAD;
        if (ways.isEmpty()) return STATE;
        int least = Integer.MAX_VALUE;
        int[] first = null;
        for (int[] plan : allPlans(n)) {
            int sum = 0;
            for (int w : plan) sum += trouble(w);
            if (sum < least) {
                least = sum;
                first = plan;
            }
        }
        if (first == null) return NONE;
        rows[r] = first;
        return least;
    }

    int longest(int r) {
        if (!in(r, 0, 5)) return BAD;
        if (ways.isEmpty()) return STATE;
        for (int n = 6; n >= 0; n--) {
            List<int[]> all = allPlans(n);
            if (all.isEmpty()) continue;
            rows[r] = all.get(0);
            return n;
        }
        throw new AssertionError("the empty plan is always there");
    }

    int goes(int r) {
        if (!in(r, 0, 5)) return BAD;
        if (ways.isEmpty()) return STATE;
        if (rows[r] == null) return finds(1);
        if (rows[r].length > 12) return finds(5);
        for (int w : rows[r]) if (!isWay(w)) return finds(3);
        List<Integer> done = new ArrayList<>(deeds);
        for (int w : rows[r]) {
            if (!fits(w, done)) break;
            done.add(w);
        }
        return done.size() - deeds.size();
    }

    int lasts(int rule) {
        if (!in(rule, 0, 2)) return BAD;
        if (ways.isEmpty()) return STATE;
        List<Integer> done = new ArrayList<>(deeds);
        int sum = 0;
        int days = 0;
        for (; days < 60; days++) {
            int taken = -1;
            int key = 0;
            for (int w = ways.size() - 1; w >= 0; w--) {
                if (!fits(w, done)) continue;
                int own = rule == 0 ? 0 : rule == 1 ? trouble(w) : done.lastIndexOf(w);
                if (taken < 0 || own <= key) {
                    taken = w;
                    key = own;
                }
            }
            if (taken < 0) break;
            done.add(taken);
            sum += trouble(taken);
        }
        asked = sum;
        return days;
    }

    int takes(int n) {
        if (!in(n, 0, 6)) return BAD;
        if (ways.isEmpty()) return STATE;
        int best = -1;
        for (int[] plan : allPlans(n)) {
            int set = 0;
            for (int w : plan) set |= needs(w);
            int more = best < 0 ? -1 : Integer.bitCount(set) - Integer.bitCount(best);
            if (more < 0 || more == 0 && set < best) best = set;
        }
        if (best < 0) return NONE;
        asked = best;
        return Integer.bitCount(best);
    }

    int rounds(int n) {
        if (!in(n, 1, 5)) return BAD;
        if (ways.isEmpty()) return STATE;
        int first = NONE;
        long many = 0;
        int[] line = new int[n];
        boolean more = true;
        while (more) {
            if (goesForEver(line)) {
                many++;
                if (first == NONE) first = line[0];
            }
            int i = n - 1;
            while (i >= 0 && line[i] == ways.size() - 1) line[i--] = 0;
            more = i >= 0;
            if (more) line[i]++;
        }
        asked = first;
        tell(many, 1);
        return 1;
    }

    /** Does the row for a long time, nobody away, one DAY behind the other. */
    private boolean goesForEver(int[] line) {
        List<Integer> done = new ArrayList<>();
        for (int i = 0; i < 12 * line.length; i++) {
            int w = line[i % line.length];
            if (kind(w) == 5) return false;
            // The first DAY has nothing ahead of it; a row that goes for ever has.
            boolean regentAtFirst = i == 0 && kind(w) == 3;
            if (!regentAtFirst && !fits(w, done, 0)) return false;
            done.add(w);
        }
        return true;
    }

    int lost(int day, int set) {
        if (!in(day, 0, 999) || !in(set, 0, (1 << people.size()) - 1)) return BAD;
        if (ways.isEmpty()) return STATE;
        int bits = 0;
        for (int w = 0; w < ways.size(); w++) {
            if (needs(w) != set || (gone(day) & set) != 0) continue;
            if (kind(w) == 5 && day % 5 != 0) continue;
            bits |= 1 << w;
        }
        return bits;
    }

    int kinds(int w, int day, int trouble, int set) {
        if (!isWay(w) || !in(day, 0, 999) || !in(trouble, 0, 18) || !in(set, 0, 7)) return BAD;
        int bits = 0;
        for (int k = 0; k < 6; k++) {
            int own = k == 4 ? 0 : ways.get(w)[2];
            if (trouble(k, ways.get(w)[1]) == trouble && own == set && (k != 5 || day % 5 == 0)) bits |= 1 << k;
        }
        return bits;
    }

    int strikes(int n) {
        if (!in(n, 0, 3)) return BAD;
        if (ways.isEmpty()) return STATE;
        List<Integer> left = new ArrayList<>();
        for (int w = 0; w < ways.size(); w++) left.add(w);
        return strike(new ArrayList<>(deeds), left, n);
    }

    private int strike(List<Integer> done, List<Integer> left, int n) {
        if (n == 0) return 0;
        if (left.isEmpty()) return answer(done, left, n);
        int most = -1;
        for (int i = 0; i < left.size(); i++) {
            List<Integer> fewer = new ArrayList<>(left);
            fewer.remove(i);
            most = Math.max(most, answer(done, fewer, n));
        }
        return most;
    }

    private int answer(List<Integer> done, List<Integer> left, int n) {
        List<Integer> then = new ArrayList<>(done);
        then.add(-1);
        int least = 20 + strike(then, left, n - 1);
        for (int w : left) {
            if (!fits(w, done)) continue;
            then.set(done.size(), w);
            least = Math.min(least, trouble(w) + strike(then, left, n - 1));
        }
        return least;
    }

    /** Each of PEOPLE draws one of twelve; the ones below p do not come. */
    private void chances(int p, boolean ofTrouble) {
        long sum = 0;
        int all = (int) Math.round(Math.pow(12, people.size()));
        for (int draw = 0; draw < all; draw++) {
            int goneThen = gone(deeds.size());
            for (int who = 0, d = draw; who < people.size(); who++, d /= 12) {
                if (d % 12 < p) goneThen |= 1 << who;
            }
            int least = 20;
            boolean any = false;
            for (int w = 0; w < ways.size(); w++) {
                if (!fits(w, deeds, goneThen)) continue;
                any = true;
                least = Math.min(least, trouble(w));
            }
            sum += ofTrouble ? least : any ? 1 : 0;
        }
        tell(sum, all);
    }

    int odds(int p) {
        if (!in(p, 0, 12)) return BAD;
        if (ways.isEmpty()) return STATE;
        chances(p, false);
        return 1;
    }

    int mid(int p) {
        if (!in(p, 0, 12)) return BAD;
        if (ways.isEmpty()) return STATE;
        chances(p, true);
        return 1;
    }

    int lots(int n, int seed) {
        if (!in(n, 1, 20) || !in(seed, 1, 2147483646)) return BAD;
        if (ways.isEmpty()) return STATE;
        if (deeds.size() + n > 40) return FULL;
        BigInteger lot = BigInteger.valueOf(seed);
        int nights = 0;
        for (int i = 0; i < n; i++) {
            lot = lot.multiply(BigInteger.valueOf(48271)).mod(BigInteger.valueOf(2147483647));
            int w = lot.intValueExact() / 8 % ways.size();
            int tries = 0;
            while (tries < ways.size() && !fits(w, deeds)) {
                w = w == ways.size() - 1 ? 0 : w + 1;
                tries++;
            }
            if (tries == ways.size()) nights++;
            deeds.add(tries == ways.size() ? -1 : w);
        }
        return nights;
    }

    int asked() {
        return asked;
    }

    long upper() {
        return upper.longValueExact();
    }

    long lower() {
        return lower.longValueExact();
    }

    int count(int what) {
        switch (what) {
            case 0: return ways.size();
            case 1: return people.size();
            case 2: case 3: return deeds.size();
            case 4: return deeds.stream().mapToInt(d -> d < 0 ? 20 : trouble(d)).sum();
            case 5: return (int) deeds.stream().filter(d -> d < 0).count();
            case 6: return (int) ways.stream().filter(w -> riot(w[0])).count();
            case 7: return (int) ways.stream().filter(w -> mimed(w[0])).count();
            case 8: return (int) Arrays.stream(rows).filter(r -> r != null).count();
            case 9: return (int) Arrays.stream(texts).filter(t -> t != null).count();
            case 10: return (int) kept.stream().filter(k -> k != null).count();
            default: return BAD;
        }
    }

    int finding() {
        return finding;
    }

    int findings(int f) {
        return in(f, 1, 5) ? findings[f] : BAD;
    }

    long digest() {
        List<Integer> all = new ArrayList<>();
        for (int what = 0; what <= 10; what++) all.add(count(what));
        for (int day = 0; day <= 6; day++) all.add(gone(day));
        for (int w = 0; w < ways.size(); w++) for (int what = 0; what <= 5; what++) all.add(fact(w, what));
        for (List<Integer> k : kept) all.add(k == null ? -1 : k.size());
        for (int[] r : rows) {
            all.add(r == null ? -1 : r.length);
            if (r != null) for (int v : r) all.add(v);
        }
        for (byte[] t : texts) {
            all.add(t == null ? -1 : t.length);
            if (t != null) for (byte v : t) all.add((int) v);
        }
        long h = 17;
        for (int v : all) h = 31 * h + v;
        return h;
    }
}
