/** Boundary cases of promises 21 to 27: PLANS, RULES of the usher, whom it takes, rounds. */
public final class PlanBoundsTest extends Bounds {
    public static void main(String[] args) {
        promise21Numbers();
        promise21FromNowOn();
        promise21Refused();
        promise22Least();
        promise22TheFirst();
        promise22None();
        promise22Refused();
        promise23Days();
        promise23Refused();
        promise24Days();
        promise24Refused();
        promise25Rules();
        promise25TheFirstOfThese();
        promise25SixtyDays();
        promise25Refused();
        promise26Fewest();
        promise26Refused();
        promise27Rests();
        promise27Riots();
        promise27LeftOut();
        promise27Refused();
        Check.end();
    }

    private static void tells(EveningFalls x, String what, int got, long upper) {
        due(what, got, 1);
        due(what + ", upper()", x.upper(), upper);
        due(what + ", lower()", x.lower(), 1);
    }

    private static String seven(int rest) {
        return "k" + rest + "w00w00w00w00w00w00w00";
    }

    private static void promise21Numbers() {
        EveningFalls x = Check.court(seven(0), 7);
        long all = 1;
        for (int n = 0; n <= 6; n++) {
            tells(x, "21: plans(" + n + ") of all", x.plans(n), all);
            all *= 7;
        }
        due("21: the most", x.upper(), 117649);
        tells(x = Check.court(seven(1), 7), "21: REST 1", x.plans(6), 7 * 6 * 6 * 6 * 6 * 6);
        tells(x = Check.court(seven(4), 7), "21: REST 4", x.plans(6), 7 * 6 * 5 * 4 * 3 * 3);
        tells(x = Check.court(seven(5), 7), "21: REST 5", x.plans(6), 7 * 6 * 5 * 4 * 3 * 2);
        tells(x = Check.court(seven(6), 7), "21: REST 6", x.plans(6), 7 * 6 * 5 * 4 * 3 * 2);
        EveningFalls two = Check.court("k2w00w00", 2);
        int[] few = {1, 2, 2, 0, 0, 0, 0};
        for (int n = 0; n <= 6; n++) tells(two, "21: plans(" + n + ") of two", two.plans(n), few[n]);
        EveningFalls none = Check.court("k0g00", 1);
        tells(none, "21: of none DAYS there is one", none.plans(0), 1);
        tells(none, "21: none", none.plans(1), 0);
        tells(none, "21: none", none.plans(6), 0);
    }

    private static void promise21FromNowOn() {
        EveningFalls x = Check.court("k1w00w00l00", 3);
        tells(x, "21: on DAY 0", x.plans(1), 3);
        x.fall(0);
        tells(x, "21: on DAY 1, one rests", x.plans(1), 1);
        tells(x, "21: up to DAY 4", x.plans(4), 1);
        // DAY 5 brings the LANDSLIDE beside the one that does not rest.
        tells(x, "21: up to DAY 5", x.plans(5), 2);
        due("21: aside", x.count(3), 1);
        EveningFalls full = full();
        tells(full, "21: also when FULL", full.plans(0), 1);
        tells(full, "21: also when FULL", full.plans(1), 2);
        due("21: aside", full.count(3), 40);
    }

    private static void promise21Refused() {
        for (int n : new int[] {-1, 7, LOW, HIGH}) bad("21: plans(" + n + ")", y -> y.plans(n));
        refused("21: no WAYS", Bounds::bare, y -> y.plans(0), STATE);
        refused("21: no WAYS", Bounds::bare, y -> y.plans(6), STATE);
    }

    private static void promise22Least() {
        EveningFalls x = Check.court("k0w90", 1);
        for (int n = 0; n <= 6; n++) {
            due("22: least(" + n + ", 0)", x.least(n, 0), 9 * n);
            rowIs(x, "22: of " + n, 0, new int[n]);
            due("22: least(" + n + ", 5)", x.least(n, 5), 9 * n);
            rowIs(x, "22: of " + n, 5, new int[n]);
        }
        due("37: ROWS that are there", x.count(8), 2);
        x.row(0, 40);
        x.lay(0, 39, 1);
        due("22: a longer ROW anew", x.least(2, 0), 18);
        rowIs(x, "22: a longer ROW anew", 0, 0, 0);
        due("22: an empty one", x.least(0, 0), 0);
        rowIs(x, "22: an empty one", 0);
        due("22: no TROUBLE is no NONE", Check.court("k0w00", 1).least(6, 0), 0);
        due("22: the most", Check.court("k1p90w90", 2).least(6, 0), 81);
        EveningFalls full = full();
        due("22: also when FULL", full.least(6, 2), 3);
        due("22: aside", full.count(3), 40);
    }

    private static void promise22TheFirst() {
        EveningFalls x = Check.court("k1w20w20w20", 3);
        due("22: all alike", x.least(6, 1), 12);
        rowIs(x, "22: lesser numbers ahead", 1, 0, 1, 0, 1, 0, 1);
        x.fall(0);
        due("22: all alike, one rests", x.least(6, 1), 12);
        rowIs(x, "22: lesser numbers ahead", 1, 1, 0, 1, 0, 1, 0);
        // 2 + 3 and 3 + 2 are alike: the first WAY decides, and it is the dearer one.
        EveningFalls y = Check.court("k1w30w20", 2);
        due("22: alike in sum", y.least(2, 1), 5);
        rowIs(y, "22: alike in sum", 1, 0, 1);
        // The cheapest one comes later than the first PLAN that is found.
        EveningFalls z = Check.court("k0w90w80w00", 3);
        due("22: the last one", z.least(3, 1), 0);
        rowIs(z, "22: the last one", 1, 2, 2, 2);
        // WAY 0 costs nothing, but only from the second DAY on: a dear start does not rule the cheaper one out.
        EveningFalls v = Check.court("k0o20w01w90w80", 3);
        due("22: a cheaper start behind a dearer one", v.least(2, 1), 8);
        rowIs(v, "22: a cheaper start behind a dearer one", 1, 2, 0);
        EveningFalls w = Check.court("k6w00m10w00l10g00r00", 6);
        due("22: all of TROUBLE 0", w.least(6, 1), 0);
        rowIs(w, "22: all of TROUBLE 0", 1, 0, 1, 2, 4, 5, 1);
    }

    private static void promise22None() {
        Made two = () -> {
            EveningFalls x = Check.court("k6w50w20", 2);
            x.row(0, 5);
            x.lay(0, 4, 3);
            x.lay(0, 4, 4);
            x.plans(2);
            return x;
        };
        for (int n = 3; n <= 6; n++) {
            int days = n;
            refused("22: NONE, " + n, two, y -> y.least(days, 0), NONE);
            refused("22: NONE, a missing ROW, " + n, two, y -> y.least(days, 1), NONE);
        }
        EveningFalls x = two.get();
        due("22: just as many as there are", x.least(2, 0), 7);
        due("22: none on DAY 0", Check.court("k0g00", 1).least(1, 0), NONE);
        due("22: of none DAYS", Check.court("k0g00", 1).least(0, 0), 0);
    }

    private static void promise22Refused() {
        for (int n : new int[] {-1, 7, LOW, HIGH}) bad("22: least(" + n + ", 0)", y -> y.least(n, 0));
        for (int r : NO_ROW) {
            bad("22: least(1, " + r + ")", y -> y.least(1, r));
            bad("22: least(-1, " + r + ")", y -> y.least(-1, r));
            bad("22: least(0, " + r + ")", y -> y.least(0, r));
        }
        refused("22: no WAYS", Bounds::bare, y -> y.least(0, 0), STATE);
        refused("22: no WAYS", Bounds::bare, y -> y.least(6, 5), STATE);
    }

    private static void promise23Days() {
        StringBuilder words = new StringBuilder("k6");
        int[] plan = {0, 1, 2, 3, 4, 5};
        for (int ways = 1; ways <= 7; ways++) {
            words.append("w10");
            EveningFalls x = Check.court(words.toString(), ways);
            due("23: " + ways + " WAYS that rest long", x.longest(0), Math.min(ways, 6));
            rowIs(x, "23: the first", 0, java.util.Arrays.copyOf(plan, Math.min(ways, 6)));
            x.row(5, 40);
            due("23: the last ROW", x.longest(5), Math.min(ways, 6));
            rowIs(x, "23: anew", 5, java.util.Arrays.copyOf(plan, Math.min(ways, 6)));
        }
        EveningFalls none = Check.court("k0g00", 1);
        due("23: none", none.longest(3), 0);
        due("23: the ROW is there", none.count(8), 1);
        rowIs(none, "23: none", 3);
        // By WAY 0 first it ends on DAY 1, by WAY 1 on DAY 2.
        EveningFalls x = Check.court("k6o21w00w01", 2);
        due("23: not the first that can be done", x.longest(1), 2);
        rowIs(x, "23: not the first that can be done", 1, 1, 0);
        EveningFalls full = full();
        due("23: also when FULL", full.longest(1), 6);
        due("23: aside", full.count(3), 40);
        due("23: asked() is not told", full.asked(), 0);
    }

    private static void promise23Refused() {
        for (int r : NO_ROW) bad("23: longest(" + r + ")", y -> y.longest(r));
        refused("23: no WAYS", Bounds::bare, y -> y.longest(0), STATE);
        refused("23: no WAYS", Bounds::bare, y -> y.longest(5), STATE);
    }

    private static EveningFalls withRow(String words, int ways, int... places) {
        EveningFalls x = Check.court(words, ways);
        x.row(0, places.length);
        for (int i = 0; i < places.length; i++) x.lay(0, i, places[i]);
        return x;
    }

    private static void promise24Days() {
        due("24: none", withRow("k0w00", 1).goes(0), 0);
        due("24: one", withRow("k0w00", 1, 0).goes(0), 1);
        due("24: eleven", withRow("k0w00", 1, new int[11]).goes(0), 11);
        due("24: twelve", withRow("k0w00", 1, new int[12]).goes(0), 12);
        due("24: not the first", withRow("k0g00w00", 2, 0, 1).goes(0), 0);
        due("24: all but the last", withRow("k1w00w00", 2, 0, 1, 0, 0).goes(0), 3);
        due("24: it stops there", withRow("k1w00w00", 2, 0, 0, 1, 0).goes(0), 1);
        due("24: the last WAY", withRow(seven(0), 7, 6, 6).goes(0), 2);
        due("24: a LANDSLIDE on DAYS 0, 5, 10", withRow("k0l00w00", 2, 0, 1, 1, 1, 1, 0, 1, 1, 1, 1, 0, 1).goes(0), 12);
        due("24: a LANDSLIDE on DAY 11", withRow("k0l00w00", 2, 0, 1, 1, 1, 1, 0, 1, 1, 1, 1, 1, 0).goes(0), 11);
        EveningFalls shorter = withRow("k1w00w00", 2, 0, 9, 9);
        shorter.least(1, 0);
        due("24: what stood behind its end is gone", shorter.goes(0), 1);
        EveningFalls x = withRow("k1w00w00", 2, 0, 1);
        x.fall(0);
        due("24: from now on", x.goes(0), 0);
        x.fall(1);
        due("24: from now on", x.goes(0), 2);
        refused("24: aside", () -> withRow("k1w00w00", 2, 0, 1, 0, 0), y -> y.goes(0), 3);
        EveningFalls full = full();
        full.row(4, 12);
        due("24: also when FULL", full.goes(4), 12);
    }

    private static void promise24Refused() {
        for (int r : NO_ROW) bad("24: goes(" + r + ")", y -> y.goes(r));
        refused("24: STATE ahead of NOTHING", Bounds::bare, y -> y.goes(0), STATE);
        refused("24: STATE ahead of SIZE, UNLIKE", () -> {
            EveningFalls x = new EveningFalls();
            x.row(0, 13);
            x.row(1, 1);
            return x;
        }, y -> y.goes(0) + y.goes(1), STATE + STATE);
        found("24: NOTHING", Bounds::busy, y -> y.goes(1), NOTHING);
        found("24: SIZE, 40", Bounds::busy, y -> y.goes(5), SIZE);
        found("24: SIZE, 13", () -> withRow("k0w00", 1, new int[13]), y -> y.goes(0), SIZE);
        found("24: UNLIKE", Bounds::busy, y -> y.goes(0), UNLIKE);
        for (int v : new int[] {-1, 2, LOW, HIGH}) {
            found("24: UNLIKE at first, " + v, () -> withRow("k0w00w00", 2, v, 0), y -> y.goes(0), UNLIKE);
            found("24: UNLIKE at last, " + v, () -> withRow("k0w00w00", 2, 0, v), y -> y.goes(0), UNLIKE);
            found("24: UNLIKE where it does not go, " + v, () -> withRow("k1w00w00", 2, 0, 0, v), y -> y.goes(0), UNLIKE);
            int[] many = new int[13];
            many[0] = v;
            found("24: SIZE ahead of UNLIKE, " + v, () -> withRow("k0w00", 1, many), y -> y.goes(0), SIZE);
        }
    }

    private static void promise25Rules() {
        EveningFalls none = Check.court("k0g50", 1);
        for (int rule = 0; rule <= 2; rule++) {
            due("25: now", none.lasts(rule), 0);
            due("25: no TROUBLE", none.asked(), 0);
        }
        EveningFalls one = Check.court("k1w50", 1);
        for (int rule = 0; rule <= 2; rule++) {
            due("25: one DAY", one.lasts(rule), 1);
            due("25: its TROUBLE", one.asked(), 5);
        }
        // WAY 1 is of least TROUBLE; WAY 2 is as cheap, but behind it.
        EveningFalls x = Check.court("k0o31w20w10w11", 3);
        due("25: rule 0", x.lasts(0), 60);
        due("25: WAY 0 alone", x.asked(), 120);
        due("25: rule 1", x.lasts(1), 60);
        due("25: WAY 1 alone", x.asked(), 60);
        x.fall(2);
        x.fall(1);
        // 0 never was; 2 on DAY 0, 1 on DAY 1; AWAY on DAYS 1, 4, 7, ..
        due("25: rule 2", x.lasts(2), 60);
        due("25: 0, 2, 1 by turns", x.asked(), 20 * 2 + 20 + 20);
        EveningFalls y = Check.court("k3w10w20w30", 3);
        y.fall(2);
        due("25: rule 2, those that never were, in their order", y.lasts(2), 2);
        due("25: rule 2, those that never were, in their order", y.asked(), 3);
        Made made = () -> {
            EveningFalls z = Check.court("k3w10w20w30", 3);
            z.lasts(0);
            return z;
        };
        refused("25: aside", made, z -> z.lasts(0), 3);
        due("25: also when FULL", full().lasts(0), 60);
    }

    /** Of two that are alike the second NEEDS nobody: it is left for the next DAY, when somebody is AWAY. */
    private static void promise25TheFirstOfThese() {
        for (int rule = 0; rule <= 2; rule++) {
            due("25: the first of these, rule " + rule, Check.court("k6o21w11w10", 2).lasts(rule), 2);
            due("25: not the first alone, rule " + rule, Check.court("k6o21w10w11", 2).lasts(rule), 1);
        }
        // 60 DAYS are eight times all seven, and four more: these tell in which order they come.
        String seven = "k0w10w20w30w40w50w60w70";
        EveningFalls x = Check.court(seven, 7);
        due("25: none ever was", x.lasts(2), 60);
        due("25: none ever was", x.asked(), 8 * 28 + 1 + 2 + 3 + 4);
        for (int w = 0; w < 3; w++) x.fall(w);
        due("25: those that never were ahead", x.lasts(2), 60);
        due("25: those that never were ahead", x.asked(), 8 * 28 + 4 + 5 + 6 + 7);
        x.undo(0);
        for (int w = 6; w >= 0; w--) x.fall(w);
        x.fall(6);
        due("25: longest ago", x.lasts(2), 60);
        due("25: longest ago", x.asked(), 8 * 28 + 6 + 5 + 4 + 3);
    }

    /** Three PEOPLE who are all AWAY first on a given DAY, one WAY for each: there is none on that DAY first. */
    private static EveningFalls until(int day) {
        String words = "k0o5" + day % 5 + "o6" + day % 6 + "o7" + day % 7 + "w11w12w14";
        return Check.court(words, 3);
    }

    private static void promise25SixtyDays() {
        for (int day : new int[] {0, 1, 30, 58, 59}) {
            for (int rule = 0; rule <= 2; rule++) {
                EveningFalls x = until(day);
                due("25: none first on DAY " + day, x.lasts(rule), day);
                due("25: TROUBLE till then", x.asked(), day);
            }
        }
        for (int day : new int[] {60, 61, 100}) {
            for (int rule = 0; rule <= 2; rule++) {
                EveningFalls x = until(day);
                due("25: none first on DAY " + day, x.lasts(rule), 60);
                due("25: TROUBLE of 60 DAYS", x.asked(), 60);
            }
        }
        EveningFalls x = until(60);
        x.night();
        due("25: from DAY 1 on", x.lasts(0), 59);
        due("25: TROUBLE till then", x.asked(), 59);
        EveningFalls y = until(99);
        for (int i = 0; i < 39; i++) y.night();
        due("25: 60 DAYS behind DAY 39", y.lasts(0), 60);
        y.night();
        due("25: 59 DAYS behind DAY 40", y.lasts(0), 59);
        due("25: TROUBLE of these alone", y.asked(), 59);
    }

    private static void promise25Refused() {
        for (int rule : new int[] {-1, 3, LOW, HIGH}) bad("25: lasts(" + rule + ")", y -> y.lasts(rule));
        for (int rule = 0; rule <= 2; rule++) {
            int asked = rule;
            refused("25: no WAYS", Bounds::bare, y -> y.lasts(asked), STATE);
        }
    }

    private static void takesAre(String words, int ways, int n, int many, int which) {
        EveningFalls x = Check.court(words, ways);
        due("26: takes(" + n + ") of " + words, x.takes(n), many);
        if (many != NONE) due("26: which, takes(" + n + ") of " + words, x.asked(), which);
    }

    private static void promise26Fewest() {
        String all = "k0o76o76o76w07";
        takesAre(all, 1, 0, 0, 0);
        takesAre(all, 1, 1, 3, 7);
        takesAre(all, 1, 6, 3, 7);
        takesAre(all + "w00", 2, 6, 0, 0);
        takesAre(all + "p07", 2, 1, 0, 0);
        // A RIOT does not come behind itself: the other one is needed.
        takesAre(all + "p07", 2, 2, 3, 7);
        takesAre("k0o76o76o76w04w02w01", 3, 6, 1, 1);
        takesAre("k1o76o76o76w04w02w01", 3, 6, 2, 3);
        takesAre("k2o76o76o76w04w02w01", 3, 6, 3, 7);
        takesAre("k3o76o76o76w04w02w01", 3, 3, 3, 7);
        takesAre("k3o76o76o76w04w02w01", 3, 4, NONE, 0);
        // One of number 4 is fewer than two of number 3.
        takesAre("k0o76o76o76w03w04", 2, 6, 1, 4);
        takesAre("k1o76o76o76w06w06w05w05w03w03", 6, 6, 2, 3);
        takesAre("k0o20o76o76w01w02", 2, 1, 1, 2);
        takesAre("k0g00", 1, 0, 0, 0);
        takesAre("k0g00", 1, 1, NONE, 0);
        due("26: also when FULL", full().takes(6), 0);
    }

    private static void promise26Refused() {
        for (int n : new int[] {-1, 7, LOW, HIGH}) bad("26: takes(" + n + ")", y -> y.takes(n));
        refused("26: no WAYS", Bounds::bare, y -> y.takes(0), STATE);
        refused("26: no WAYS", Bounds::bare, y -> y.takes(6), STATE);
        refused("26: NONE leaves asked()", () -> {
            EveningFalls x = Check.court("k6o20w30p90", 2);
            x.way(1, 1);
            return x;
        }, y -> y.takes(3), NONE);
        refused("26: aside", () -> {
            EveningFalls x = Check.court("k6o21w31w30", 2);
            x.takes(2);
            return x;
        }, y -> y.takes(2), 1);
    }

    private static String alike(int rest, String way, int many) {
        return "k" + rest + way.repeat(many);
    }

    private static void roundsAre(String words, int ways, int n, long many, int first) {
        EveningFalls x = Check.court(words, ways);
        tells(x, "27: rounds(" + n + ") of " + words, x.rounds(n), many);
        due("27: the first, rounds(" + n + ") of " + words, x.asked(), first);
    }

    /** A WAY that comes once comes again in n DAYS: REST may be n - 1, and not n. */
    private static void promise27Rests() {
        int[] orders = {1, 1, 2, 6, 24, 120};
        for (int n = 1; n <= 5; n++) {
            roundsAre(alike(n - 1, "w00", n), n, n, orders[n], 0);
            roundsAre(alike(n, "w00", n), n, n, 0, NONE);
            roundsAre(alike(n, "w00", 7), 7, n, 0, NONE);
            roundsAre(alike(n - 1, "g00", n), n, n, orders[n], 0);
        }
        for (int n = 1; n <= 4; n++) {
            roundsAre(alike(2 * n - 2, "m00", n), n, n, orders[n], 0);
            if (2 * n - 1 <= 6) roundsAre(alike(2 * n - 1, "m00", n), n, n, orders[n], 0);
            if (2 * n <= 6) roundsAre(alike(2 * n, "m00", n), n, n, 0, NONE);
        }
        roundsAre(alike(0, "w00", 7), 7, 5, 16807, 0);
        roundsAre(alike(0, "w00", 7), 7, 1, 7, 0);
        roundsAre(alike(6, "w00", 7), 7, 5, 0, NONE);
        // REST 1 in a row of 3: 0, 1, 0 comes again too soon at the seam.
        roundsAre("k1w00w00", 2, 3, 0, NONE);
        roundsAre("k1w00w00", 2, 4, 2, 0);
        roundsAre("k1w00m00", 2, 3, 4, 0);
    }

    private static void promise27Riots() {
        roundsAre("k0r00", 1, 1, 0, NONE);
        roundsAre("k0p00", 1, 1, 0, NONE);
        roundsAre("k0r00", 1, 2, 0, NONE);
        roundsAre("k0r00r00", 2, 2, 0, NONE);
        roundsAre("k0r00p00", 2, 2, 0, NONE);
        roundsAre("k0r00w00", 2, 1, 1, 1);
        roundsAre("k0r00w00", 2, 2, 3, 0);
        roundsAre("k0p00w00", 2, 3, 4, 0);
        roundsAre("k0r00p00w00", 3, 3, 7, 0);
        roundsAre("k0r00p00w00", 3, 5, 31, 0);
    }

    private static void promise27LeftOut() {
        roundsAre("k0l00", 1, 1, 0, NONE);
        roundsAre("k0l00", 1, 5, 0, NONE);
        roundsAre("k0l00w00", 2, 5, 1, 1);
        roundsAre("k0o20o30o40w07", 1, 5, 1, 0);
        roundsAre("k0g00", 1, 1, 1, 0);
        EveningFalls x = Check.court("k1o20w01w01l00", 3);
        tells(x, "27: at first", x.rounds(2), 2);
        x.night();
        x.fall(0);
        tells(x, "27: what was done is no matter", x.rounds(2), 2);
        due("27: what was done is no matter", x.asked(), 0);
        EveningFalls full = full();
        tells(full, "27: also when FULL", full.rounds(1), 2);
        // What was looked for before, and in another COURT, leaves nothing.
        EveningFalls y = Check.court("k0w90w90w90w00", 4);
        due("22: the last one alone", y.least(5, 0), 0);
        y.text(1, 5);
        for (int i = 0; i < 5; i++) y.put(1, i, "k0w00".charAt(i));
        due("11: one WAY", y.court(1), 1);
        tells(y, "27: one WAY", y.rounds(5), 1);
        due("27: one WAY", y.asked(), 0);
    }

    private static void promise27Refused() {
        for (int n : new int[] {0, -1, 6, LOW, HIGH}) bad("27: rounds(" + n + ")", y -> y.rounds(n));
        refused("27: no WAYS", Bounds::bare, y -> y.rounds(1), STATE);
        refused("27: no WAYS", Bounds::bare, y -> y.rounds(5), STATE);
        refused("27: aside", () -> {
            EveningFalls x = Check.court(SEVEN, 7);
            x.fall(4);
            x.rounds(4);
            return x;
        }, y -> y.rounds(4), 1);
    }
}
