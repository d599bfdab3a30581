import java.util.Random;

/**
 * Runs of random calls: the class and the slow model answer alike. Each object gets the 512 calls for which the
 * document promises something, the looks at what is told among them, and no more.
 */
public final class RandomRunsTest {
    private static final int RUNS = 3000;
    private static final int MOST_CALLS = 512;
    private static final int LOOKS = 12;
    /** A new COURT of 60 bytes, looked at behind text(), fault() and court(). */
    private static final int DEAREST = 63 + 3 * LOOKS;
    /** In some runs every call is looked at, in others few are, so that more calls come behind each other. */
    private static final int[] WATCHES = {1, 4, 20};

    public static void main(String[] args) {
        for (int run = 0; run < RUNS && !Check.anyWrong(); run++) new RandomRunsTest(run).go();
        Check.end();
    }

    private final int run;
    private final Random random;
    private final int watch;
    private final EveningFalls x = new EveningFalls();
    private final UsherModel m = new UsherModel();
    private int spent = 0;

    private RandomRunsTest(int run) {
        this.run = run;
        this.random = new Random(run * 7919L + 1);
        this.watch = WATCHES[run % WATCHES.length];
    }

    private void go() {
        if (random.nextInt(10) != 0) newCourt();
        while (spent + DEAREST + LOOKS <= MOST_CALLS && !Check.anyWrong()) {
            if (random.nextInt(120) == 0) newCourt();
            else call();
        }
        while (spent + LOOKS < MOST_CALLS && !Check.anyWrong()) deedCall();
        look("the last call");
        if (!Check.anyWrong()) Check.due("run " + run + ": calls", spent, MOST_CALLS);
    }

    private void due(String call, long got, long want) {
        spent++;
        Check.due("run " + run + ": " + call, got, want);
        boolean mayLook = spent + 2 * LOOKS <= MOST_CALLS;
        if (mayLook && random.nextInt(watch) == 0) look(call);
    }

    private void look(String call) {
        spent += LOOKS;
        Check.due("run " + run + ": digest() behind " + call, x.digest(), m.digest());
        Check.due("run " + run + ": asked() behind " + call, x.asked(), m.asked());
        Check.due("run " + run + ": upper() behind " + call, x.upper(), m.upper());
        Check.due("run " + run + ": lower() behind " + call, x.lower(), m.lower());
        Check.due("run " + run + ": finding() behind " + call, x.finding(), m.finding());
        for (int f = 0; f <= 6; f++) Check.due("run " + run + ": findings(" + f + ")", x.findings(f), m.findings(f));
    }

    private int near(int low, int high) {
        int luck = random.nextInt(60);
        if (luck == 0) return Integer.MIN_VALUE;
        if (luck == 1) return Integer.MAX_VALUE;
        if (luck == 2) return low - 1;
        if (luck == 3) return high + 1;
        return low + random.nextInt(high - low + 1);
    }

    private String blanks() {
        return random.nextInt(4) == 0 ? " ".repeat(random.nextInt(3)) : "";
    }

    private String words() {
        StringBuilder s = new StringBuilder(blanks());
        s.append('k').append(random.nextInt(3) == 0 ? random.nextInt(2) : random.nextInt(7)).append(blanks());
        int people = random.nextInt(4);
        for (int p = 0; p < people; p++) {
            int round = 2 + random.nextInt(6);
            s.append('o').append(round).append(random.nextInt(round)).append(blanks());
        }
        int ways = 1 + random.nextInt(7);
        for (int w = 0; w < ways; w++) {
            s.append("wrmgpl".charAt(random.nextInt(6))).append(random.nextInt(10));
            s.append(random.nextInt(2) == 0 ? 0 : random.nextInt(1 << people)).append(blanks());
        }
        return s.length() > 60 ? s.substring(0, 60) : s.toString();
    }

    private void newCourt() {
        int t = random.nextInt(4);
        String words = words();
        due("text", x.text(t, words.length()), m.text(t, words.length()));
        for (int i = 0; i < words.length(); i++) x.put(t, i, words.charAt(i) + 256 * random.nextInt(3));
        for (int i = 0; i < words.length(); i++) m.put(t, i, words.charAt(i));
        spent += words.length();
        due("fault of '" + words + "'", x.fault(t), m.fault(t));
        due("court of '" + words + "'", x.court(t), m.court(t));
    }

    private void spoil() {
        int t = random.nextInt(4);
        int i = near(0, 40);
        int v = random.nextInt(3) == 0 ? random.nextInt(256) : "kowrmgpl0123456789 ".charAt(random.nextInt(19));
        due("put(" + t + ", " + i + ", " + v + ")", x.put(t, i, v), m.put(t, i, v));
        due("fault(" + t + ")", x.fault(t), m.fault(t));
    }

    private void call() {
        switch (random.nextInt(8)) {
            case 0: rowCall(); break;
            case 1: textCall(); break;
            case 2: case 3: deedCall(); break;
            case 4: planCall(); break;
            case 5: lostCall(); break;
            default: otherCall(); break;
        }
    }

    private void rowCall() {
        int r = near(0, 5);
        int i = near(0, 8);
        int j = near(0, 8);
        int n = near(0, 8);
        int v = random.nextInt(3) == 0 ? random.nextInt() : near(0, 6);
        switch (random.nextInt(6)) {
            case 0:
                int size = random.nextBoolean() ? near(0, 40) : near(0, 12);
                due("row(" + r + ", " + size + ")", x.row(r, size), m.row(r, size));
                break;
            case 1: due("lay(" + r + ", " + i + ", " + v + ")", x.lay(r, i, v), m.lay(r, i, v)); break;
            case 2: due("at(" + r + ", " + i + ")", x.at(r, i), m.at(r, i)); break;
            case 3:
                if (random.nextInt(3) == 0) due("tear(" + r + ")", x.tear(r), m.tear(r));
                break;
            case 4:
                int to = random.nextInt(3) == 0 ? r : near(0, 5);
                due("copy(" + r + ", " + i + ", " + to + ", " + j + ", " + n + ")",
                        x.copy(r, i, to, j, n), m.copy(r, i, to, j, n));
                break;
            default: due("mean(" + r + ")", x.mean(r), m.mean(r)); break;
        }
    }

    private void textCall() {
        int t = near(0, 3);
        int n = near(0, 60);
        switch (random.nextInt(8)) {
            case 0: due("text(" + t + ", " + n + ")", x.text(t, n), m.text(t, n)); break;
            case 1: due("fault(" + t + ")", x.fault(t), m.fault(t)); break;
            case 2: due("court(" + t + ")", x.court(t), m.court(t)); break;
            default: spoil(); break;
        }
    }

    private void deedCall() {
        int w = near(0, 6);
        int k = near(0, 2);
        int n = near(0, m.count(3));
        int days = near(1, 20);
        int seed = random.nextInt(8) == 0 ? near(1, 2147483646 / 2) : random.nextInt();
        switch (random.nextInt(10)) {
            case 0: due("night()", x.night(), m.night()); break;
            case 1: due("undo(" + n + ")", x.undo(n), m.undo(n)); break;
            case 2: due("keep(" + k + ")", x.keep(k), m.keep(k)); break;
            case 3: due("on(" + k + ")", x.on(k), m.on(k)); break;
            case 4:
                due("lots(" + days + ", " + seed + ")", x.lots(days, seed), m.lots(days, seed));
                break;
            default: due("fall(" + w + ")", x.fall(w), m.fall(w)); break;
        }
    }

    private void planCall() {
        // Long plans are dear in the model: they come seldom.
        int n = random.nextInt(12) == 0 ? near(5, 6) : near(0, 4);
        int r = near(0, 5);
        int rule = near(0, 2);
        switch (random.nextInt(8)) {
            case 0: due("can()", x.can(), m.can()); break;
            case 1: due("plans(" + n + ")", x.plans(n), m.plans(n)); break;
            case 2: due("least(" + n + ", " + r + ")", x.least(n, r), m.least(n, r)); break;
            case 3:
                if (random.nextInt(4) == 0) due("longest(" + r + ")", x.longest(r), m.longest(r));
                break;
            case 4: due("takes(" + n + ")", x.takes(n), m.takes(n)); break;
            case 5: due("lasts(" + rule + ")", x.lasts(rule), m.lasts(rule)); break;
            default: planRow(random.nextInt(6)); break;
        }
    }

    /** A row that is near to a plan, so that goes() goes some days. */
    private void planRow(int r) {
        int n = near(0, 12);
        due("row(" + r + ", " + n + ")", x.row(r, n), m.row(r, n));
        for (int i = 0; i < Math.min(n, 12); i++) {
            int w = random.nextInt(Math.max(1, m.count(0)));
            x.lay(r, i, w);
            m.lay(r, i, w);
            spent++;
        }
        due("goes(" + r + ")", x.goes(r), m.goes(r));
        int any = near(0, 5);
        due("goes(" + any + ")", x.goes(any), m.goes(any));
    }

    private void lostCall() {
        int w = near(0, 6);
        int day = random.nextBoolean() ? near(0, 999) : 5 * near(0, 20);
        int set = near(0, 7);
        int trouble = near(0, 18);
        int what = near(0, 5);
        int kind = near(0, 5);
        switch (random.nextInt(5)) {
            case 0: due("lost(" + day + ", " + set + ")", x.lost(day, set), m.lost(day, set)); break;
            case 1:
                due("kinds(" + w + ", " + day + ", " + trouble + ", " + set + ")",
                        x.kinds(w, day, trouble, set), m.kinds(w, day, trouble, set));
                break;
            case 2: due("way(" + w + ", " + what + ")", x.way(w, what), m.way(w, what)); break;
            case 3: due("mark(" + w + ", " + kind + ")", x.mark(w, kind), m.mark(w, kind)); break;
            default: due("away(" + day + ")", x.away(day), m.away(day)); break;
        }
    }

    private void otherCall() {
        int n = random.nextInt(6) == 0 ? near(4, 5) : near(1, 3);
        int p = near(0, 12);
        int what = near(0, 10);
        int days = random.nextInt(6) == 0 ? near(2, 3) : near(0, 1);
        switch (random.nextInt(5)) {
            case 0: due("rounds(" + n + ")", x.rounds(n), m.rounds(n)); break;
            case 1: due("strikes(" + days + ")", x.strikes(days), m.strikes(days)); break;
            case 2: due("odds(" + p + ")", x.odds(p), m.odds(p)); break;
            case 3: due("mid(" + p + ")", x.mid(p), m.mid(p)); break;
            default: due("count(" + what + ")", x.count(what), m.count(what)); break;
        }
    }
}
