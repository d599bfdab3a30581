/** Boundary cases of promises 28 to 33: a lost DAY, KINDS, one who strikes out, chances, LOTS. */
public final class ChanceBoundsTest extends Bounds {
    public static void main(String[] args) {
        promise28Days();
        promise28Sets();
        promise28Refused();
        promise29Kinds();
        promise29Bounds();
        promise29Refused();
        promise30Strikes();
        promise30FromNowOn();
        promise30Refused();
        promise31Chances();
        promise31WhoIsAway();
        promise32Means();
        promise31And32Refused();
        promise33Numbers();
        promise33NextOne();
        promise33HowMany();
        promise33Refused();
        Check.end();
    }

    private static void promise28Days() {
        EveningFalls x = Check.court("k6o72w01r01m01g01p01l01l00", 7);
        due("28: DAY 0", x.lost(0, 1), 1 + 2 + 4 + 8 + 32);
        due("28: DAY 1", x.lost(1, 1), 1 + 2 + 4 + 8);
        due("28: AWAY on DAY 2", x.lost(2, 1), 0);
        due("28: nobody, on DAY 2", x.lost(2, 0), 16);
        due("28: nobody, on DAY 5", x.lost(5, 0), 16 + 64);
        due("28: DAY 994", x.lost(994, 1), 1 + 2 + 4 + 8);
        due("28: DAY 995", x.lost(995, 1), 1 + 2 + 4 + 8 + 32);
        due("28: DAY 999", x.lost(999, 0), 16);
        due("28: DAY 30 is one of those AWAY", x.lost(30, 1), 0);
        x.fall(0);
        due("28: what was done is no matter", x.lost(0, 1), 1 + 2 + 4 + 8 + 32);
        refused("28: aside", Bounds::busy, y -> y.lost(0, 4), 32);
    }

    private static void promise28Sets() {
        String people = "";
        for (int many = 0; many <= 3; many++) {
            int all = (1 << many) - 1;
            String words = "k0" + people + "w0" + all + "w00";
            EveningFalls x = Check.court(words, 2);
            due("28: the least set, " + words, x.lost(1, 0), many == 0 ? 3 : 2);
            due("28: the greatest set, " + words, x.lost(1, all), many == 0 ? 3 : 1);
            Made made = () -> Check.court(words, 2);
            refused("28: the next one, " + words, made, y -> y.lost(1, all + 1), BAD);
            refused("28: below, " + words, made, y -> y.lost(1, -1), BAD);
            people += "o70";
        }
        EveningFalls x = Check.court("k0o70o70o70w03w01w02w06", 4);
        due("28: just these", x.lost(1, 3), 1);
        due("28: not fewer", x.lost(1, 1), 2);
        due("28: no such WAY", x.lost(1, 7), 0);
        due("28: no such WAY", x.lost(1, 4), 0);
        // One of two is AWAY.
        due("28: one of them AWAY", Check.court("k0o20o70w03", 1).lost(2, 3), 0);
        due("28: none of them AWAY", Check.court("k0o20o70w03", 1).lost(1, 3), 1);
        due("28: another one AWAY", Check.court("k0o20o70w02", 1).lost(2, 2), 1);
    }

    private static void promise28Refused() {
        for (int day : new int[] {-1, 1000, LOW, HIGH}) bad("28: lost(" + day + ", 0)", y -> y.lost(day, 0));
        for (int set : new int[] {-1, 8, LOW, HIGH}) bad("28: lost(0, " + set + ")", y -> y.lost(0, set));
        refused("28: no WAYS", Bounds::bare, y -> y.lost(0, 0), STATE);
        refused("28: no WAYS", Bounds::bare, y -> y.lost(999, 0), STATE);
        refused("28: no PEOPLE, no such set", Bounds::bare, y -> y.lost(0, 1), BAD);
    }

    private static void promise29Kinds() {
        // As told of it: 9 and all PEOPLE; by KIND: 9, 9, 4, 9, 18 of nobody, 4.
        for (char letter : "wrmgpl".toCharArray()) {
            EveningFalls x = Check.court("k0o20o20o20" + letter + "97", 1);
            due("29: as told, " + letter, x.kinds(0, 0, 9, 7), 1 + 2 + 8);
            due("29: half, on a DAY that 5 divides, " + letter, x.kinds(0, 0, 4, 7), 4 + 32);
            due("29: half, on another DAY, " + letter, x.kinds(0, 1, 4, 7), 4);
            due("29: twice, nobody, " + letter, x.kinds(0, 0, 18, 0), 16);
            due("29: twice, " + letter, x.kinds(0, 0, 18, 7), 0);
            due("29: as told, nobody, " + letter, x.kinds(0, 0, 9, 0), 0);
            due("29: as told, fewer, " + letter, x.kinds(0, 0, 9, 3), 0);
            due("29: half, not cut, " + letter, x.kinds(0, 0, 5, 7), 0);
        }
        EveningFalls y = Check.court("k0w00w10", 2);
        due("29: all", y.kinds(0, 0, 0, 0), 63);
        due("29: all but LANDSLIDE", y.kinds(0, 4, 0, 0), 31);
        due("29: 1, half of it cut", y.kinds(1, 5, 0, 0), 36);
        due("29: 1", y.kinds(1, 5, 1, 0), 11);
        due("29: 1, twice", y.kinds(1, 5, 2, 0), 16);
    }

    private static void promise29Bounds() {
        EveningFalls x = Check.court("k0w00", 1);
        due("29: DAY 0", x.kinds(0, 0, 0, 0), 63);
        due("29: DAY 995", x.kinds(0, 995, 0, 0), 63);
        due("29: DAY 999", x.kinds(0, 999, 0, 0), 31);
        due("29: TROUBLE 18", x.kinds(0, 0, 18, 0), 0);
        due("29: set 7, though there is nobody", x.kinds(0, 0, 0, 7), 0);
        due("29: set 1, though there is nobody", x.kinds(0, 0, 0, 1), 0);
        EveningFalls y = Check.court("k0o20w00w00w00w00w00w00w90", 7);
        due("29: the last WAY", y.kinds(6, 0, 18, 0), 16);
        // Who is AWAY on that DAY, and what was done, is no matter.
        EveningFalls z = Check.court("k6o20w31", 1);
        due("29: AWAY", z.kinds(0, 0, 3, 1), 11);
        z.night();
        z.fall(0);
        due("29: done", z.kinds(0, 1, 3, 1), 11);
        refused("29: aside", Bounds::busy, v -> v.kinds(0, 0, 4, 1), 11);
    }

    private static void promise29Refused() {
        for (int w : new int[] {-1, 7, LOW, HIGH}) bad("29: WAY " + w, y -> y.kinds(w, 0, 0, 0));
        for (int day : new int[] {-1, 1000, LOW, HIGH}) bad("29: DAY " + day, y -> y.kinds(0, day, 0, 0));
        for (int t : new int[] {-1, 19, LOW, HIGH}) bad("29: TROUBLE " + t, y -> y.kinds(0, 0, t, 0));
        for (int set : new int[] {-1, 8, LOW, HIGH}) bad("29: set " + set, y -> y.kinds(0, 0, 0, set));
        refused("29: of no WAYS", Bounds::bare, y -> y.kinds(0, 0, 0, 0), BAD);
        refused("29: the next WAY", Bounds::full, y -> y.kinds(3, 0, 0, 0), BAD);
    }

    private static void strikesAre(String words, int ways, int... troubles) {
        EveningFalls x = Check.court(words, ways);
        for (int n = 0; n < troubles.length; n++) due("30: strikes(" + n + ") of " + words, x.strikes(n), troubles[n]);
    }

    private static void promise30Strikes() {
        // One WAY: struck out at once, then there is none to strike.
        strikesAre("k0w00", 1, 0, 20, 40, 60);
        strikesAre("k0w90", 1, 0, 20, 40, 60);
        // Two: the cheaper one first, the other one then.
        strikesAre("k0w10w20", 2, 0, 2, 22, 42);
        // Three: 2 (of 2, 3), then 3, then none.
        strikesAre("k0w10w20w30", 3, 0, 2, 5, 25);
        strikesAre("k0w00w00w00w00w00w00w00", 7, 0, 0, 0, 0);
        strikesAre("k0w90w90w90w90", 4, 0, 9, 18, 27);
        // What is done rests: of two that are left one is struck out, the other one rests.
        strikesAre("k1w10w10w10", 3, 0, 1, 21, 41);
        strikesAre("k0g00g00g00", 3, 0, 20, 40, 60);
        strikesAre("k0o20w01w01w01w01", 4, 0, 20, 20, 40);
        strikesAre("k0p90p90p90p90p90", 5, 0, 18, 38, 56);
    }

    private static void promise30FromNowOn() {
        EveningFalls x = Check.court("k1w10w10w90", 3);
        due("30: at first", x.strikes(1), 1);
        x.fall(0);
        due("30: one rests, one is struck out", x.strikes(1), 9);
        due("30: aside", x.count(3), 1);
        refused("30: aside", Bounds::busy, y -> y.strikes(0), 0);
        refused("30: aside", Bounds::busy, y -> y.strikes(1), 20);
        EveningFalls full = full();
        due("30: also when FULL", full.strikes(1), 3);
        due("30: aside", full.count(3), 40);
    }

    private static void promise30Refused() {
        for (int n : new int[] {-1, 4, LOW, HIGH}) bad("30: strikes(" + n + ")", y -> y.strikes(n));
        refused("30: no WAYS", Bounds::bare, y -> y.strikes(0), STATE);
        refused("30: no WAYS", Bounds::bare, y -> y.strikes(3), STATE);
    }

    private static void promise31Chances() {
        long[][] one = {{1, 1}, {11, 12}, {5, 6}, {3, 4}, {2, 3}, {7, 12}, {1, 2}, {5, 12}, {1, 3}, {1, 4}, {1, 6},
            {1, 12}, {0, 1}};
        EveningFalls x = Check.court("k0o21w01", 1);
        for (int p = 0; p <= 12; p++) tells(x, "31: one, odds(" + p + ")", x.odds(p), one[p][0], one[p][1]);
        EveningFalls all = Check.court("k0o21o21o21w07", 1);
        tells(all, "31: all three, odds(0)", all.odds(0), 1, 1);
        tells(all, "31: all three, odds(1)", all.odds(1), 1331, 1728);
        tells(all, "31: all three, odds(6)", all.odds(6), 1, 8);
        tells(all, "31: all three, odds(11)", all.odds(11), 1, 1728);
        tells(all, "31: all three, odds(12)", all.odds(12), 0, 1);
        EveningFalls any = Check.court("k0o21o21o21w01w02w04", 3);
        tells(any, "31: any of three, odds(0)", any.odds(0), 1, 1);
        tells(any, "31: any of three, odds(1)", any.odds(1), 1727, 1728);
        tells(any, "31: any of three, odds(11)", any.odds(11), 1728 - 1331, 1728);
        tells(any, "31: any of three, odds(12)", any.odds(12), 0, 1);
        EveningFalls nobody = Check.court("k0w00", 1);
        EveningFalls none = Check.court("k0g00", 1);
        for (int p : new int[] {0, 5, 12}) {
            tells(nobody, "31: nobody is needed", nobody.odds(p), 1, 1);
            tells(none, "31: there is none", none.odds(p), 0, 1);
        }
    }

    private static void promise31WhoIsAway() {
        EveningFalls x = Check.court("k0o20o21w01w02", 2);
        tells(x, "31: the first one is AWAY", x.odds(3), 3, 4);
        x.night();
        tells(x, "31: the second one is AWAY", x.odds(3), 3, 4);
        EveningFalls all = Check.court("k0o20o20o20w01w02w04", 3);
        for (int p : new int[] {0, 5, 12}) {
            tells(all, "31: all are AWAY", all.odds(p), 0, 1);
            tells(all, "32: all are AWAY", all.mid(p), 20, 1);
        }
        EveningFalls y = Check.court("k3o21w01p01", 2);
        tells(y, "31: a PROXY NEEDS nobody", y.odds(12), 1, 1);
        y.fall(1);
        tells(y, "31: it rests, and the other one is AWAY", y.odds(0), 0, 1);
        y.night();
        tells(y, "31: it rests, and the other one may come", y.odds(1), 11, 12);
        EveningFalls full = full();
        tells(full, "31: also when FULL", full.odds(12), 1, 1);
    }

    private static void promise32Means() {
        // TROUBLE 0 by (12 - p) of 12, else 20.
        long[][] one = {{0, 1}, {5, 3}, {10, 3}, {5, 1}, {20, 3}, {25, 3}, {10, 1}, {35, 3}, {40, 3}, {15, 1}, {50, 3},
            {55, 3}, {20, 1}};
        EveningFalls x = Check.court("k0o21w01", 1);
        for (int p = 0; p <= 12; p++) tells(x, "32: one, mid(" + p + ")", x.mid(p), one[p][0], one[p][1]);
        EveningFalls all = Check.court("k0o21o21o21w97", 1);
        tells(all, "32: all three, mid(0)", all.mid(0), 9, 1);
        tells(all, "32: all three, mid(1)", all.mid(1), 1331 * 9 + 397 * 20, 1728);
        tells(all, "32: all three, mid(11)", all.mid(11), 9 + 1727 * 20, 1728);
        tells(all, "32: all three, mid(12)", all.mid(12), 20, 1);
        EveningFalls nobody = Check.court("k0w90w30p00", 3);
        tells(nobody, "32: the least", nobody.mid(12), 0, 1);
        nobody.fall(2);
        tells(nobody, "32: the least that can be done", nobody.mid(12), 3, 1);
        // A dear PROXY is done before he REIGNS.
        EveningFalls proxy = Check.court("k0o21w01p90", 2);
        tells(proxy, "32: a PROXY of 18", proxy.mid(12), 18, 1);
        tells(proxy, "32: a PROXY of 18, by half", proxy.mid(6), 9, 1);
        EveningFalls none = Check.court("k0g00", 1);
        tells(none, "32: there is none", none.mid(0), 20, 1);
    }

    private static void promise31And32Refused() {
        for (int p : new int[] {-1, 13, LOW, HIGH}) {
            bad("31: odds(" + p + ")", y -> y.odds(p));
            bad("32: mid(" + p + ")", y -> y.mid(p));
        }
        for (int p : new int[] {0, 12}) {
            refused("31: no WAYS", Bounds::bare, y -> y.odds(p), STATE);
            refused("32: no WAYS", Bounds::bare, y -> y.mid(p), STATE);
        }
        EveningFalls x = busy();
        long before = x.digest();
        x.odds(1);
        x.mid(1);
        due("31, 32: aside", x.digest(), before);
        due("31, 32: asked() is not told", x.asked(), 77);
    }

    /** From 1 the numbers are 48271, 182605794, 1291394886, 1914720637, 2078669041. */
    private static void promise33Numbers() {
        EveningFalls x = Check.court("k0w00w00w00w00w00w00w00", 7);
        due("33: five DAYS", x.lots(5, 1), 0);
        int[] often = {1, 0, 0, 0, 0, 1, 3};
        int[] last = {4, NONE, NONE, NONE, NONE, 1, 3};
        for (int w = 0; w < 7; w++) {
            asks(x, "33: how often " + w, x.way(w, 4), often[w]);
            asks(x, "33: done last " + w, x.way(w, 3), last[w]);
        }
        due("37: the DAY", x.count(2), 5);
        // From the greatest seed the number is 2147435376; by 8, modulo 7 it is 2.
        EveningFalls y = Check.court("k0w00w00w00w00w00w00w00", 7);
        due("33: the greatest seed", y.lots(1, 2147483646), 0);
        asks(y, "33: the greatest seed", y.way(2, 4), 1);
        // Each call starts from its own seed.
        due("33: the seed again", y.lots(1, 2147483646), 0);
        asks(y, "33: the seed again", y.way(2, 4), 2);
        due("33: one WAY alone", Check.court("k0w00", 1).lots(20, 7), 0);
    }

    /** 6033 modulo 5 is 3. */
    private static void promise33NextOne() {
        String[] courts = {"k0w00w00w00w00w00", "k0o20w00w00w00w01w00", "k0o20w00w00w00w01w01", "k0o20w01w00w00w01w01",
            "k0o20w01w01w00w01w01"};
        int[] done = {3, 4, 0, 1, 2};
        for (int i = 0; i < courts.length; i++) {
            EveningFalls x = Check.court(courts[i], 5);
            due("33: none is a night, " + courts[i], x.lots(1, 1), 0);
            asks(x, "33: which, " + courts[i], x.way(done[i], 4), 1);
        }
        EveningFalls x = Check.court("k0o20w01w01w01w01w01", 5);
        due("33: a night", x.lots(1, 1), 1);
        due("37: nights", x.count(5), 1);
        due("33: then there are WAYS", x.lots(1, 1), 0);
        due("33: a night and none", x.lots(2, 1), 1);
        EveningFalls none = Check.court("k0g00", 1);
        due("33: nights alone", none.lots(20, 5), 20);
        due("33: nights alone", none.lots(20, 5), 20);
        due("37: nights", none.count(5), 40);
    }

    private static void promise33HowMany() {
        for (int before : new int[] {20, 21, 39, 40}) {
            int room = 40 - before;
            Made made = () -> {
                EveningFalls x = Check.court("k0w10", 1);
                for (int i = 0; i < before; i++) x.fall(0);
                return x;
            };
            EveningFalls x = made.get();
            if (room > 0) due("33: as many as there is room for", x.lots(room, 1), 0);
            due("37: DEEDS", x.count(3), 40);
            if (room < 20) refused("33: one more", made, y -> y.lots(room + 1, 1), FULL);
            refused("33: BAD ahead of FULL", made, y -> y.lots(21, 1), BAD);
        }
        EveningFalls x = Check.court("k0w10", 1);
        due("33: 1", x.lots(1, 1), 0);
        due("33: 20", x.lots(20, 2147483646), 0);
        due("33: TROUBLE", x.count(4), 21);
        due("33: asked() is not told", x.asked(), 0);
        due("33: upper() is not told", x.upper(), 0);
    }

    private static void promise33Refused() {
        for (int n : new int[] {0, -1, 21, LOW, HIGH}) bad("33: lots(" + n + ", 1)", y -> y.lots(n, 1));
        for (int seed : new int[] {0, -1, HIGH, LOW}) {
            bad("33: lots(1, " + seed + ")", y -> y.lots(1, seed));
            bad("33: lots(20, " + seed + ")", y -> y.lots(20, seed));
        }
        refused("33: no WAYS", Bounds::bare, y -> y.lots(1, 1), STATE);
        refused("33: no WAYS", Bounds::bare, y -> y.lots(20, 2147483646), STATE);
        refused("33: FULL", Bounds::full, y -> y.lots(1, 1), FULL);
        refused("33: FULL", Bounds::full, y -> y.lots(20, 2147483646), FULL);
    }
}
