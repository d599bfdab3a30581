/** Boundary cases of promises 15 to 20: what can be done on a DAY, DEEDS, kept COURTS. */
public final class DeedBoundsTest extends Bounds {
    public static void main(String[] args) {
        promise15Rest();
        promise15RestBehindMuch();
        promise15PeopleAway();
        promise15Riots();
        promise15Landslides();
        promise15Regents();
        promise15Trouble();
        promise15Full();
        promise15Refused();
        promise16Nights();
        promise16Refused();
        promise17Undone();
        promise17AllOfForty();
        promise17Refused();
        promise18Kept();
        promise18Refused();
        promise19On();
        promise19OnOfForty();
        promise19Refused();
        promise20Sets();
        Check.end();
    }

    /** A WAY is refused for so many DAYS behind the one on which it was done, and not on the next one. */
    private static void restsFor(String words, int days, int trouble) {
        EveningFalls x = Check.court(words, 1);
        due("15: " + words, x.fall(0), trouble);
        for (int day = 1; day <= days; day++) {
            due("20: " + words + ", not on DAY " + day, x.can(), 0);
            due("15: " + words + ", not on DAY " + day, x.fall(0), STATE);
            asks(x, "12: " + words + ", not on DAY " + day, x.way(0, 5), 0);
            x.night();
        }
        due("20: " + words + ", again", x.can(), 1);
        asks(x, "12: " + words + ", again", x.way(0, 5), 1);
        due("15: " + words + ", again", x.fall(0), trouble);
    }

    private static void promise15Rest() {
        for (int rest = 0; rest <= 6; rest++) {
            restsFor("k" + rest + "w70", rest, 7);
            restsFor("k" + rest + "m70", rest / 2, 3);
            restsFor("k" + rest + "l70", 4, 3);
            // The same RIOT is one that was done on the DAY ahead.
            restsFor("k" + rest + "r70", Math.max(1, rest), 7);
            restsFor("k" + rest + "p70", Math.max(1, rest), 14);
        }
    }

    /** What counts is when it was done last, not first. */
    private static void promise15RestBehindMuch() {
        EveningFalls x = Check.court("k2w10w20w30", 3);
        for (int day = 0; day < 9; day++) due("15: by turns, DAY " + day, x.fall(day % 3), 1 + day % 3);
        due("20: the first one alone", x.can(), 1);
        due("15: done one DAY ago", x.fall(2), STATE);
        due("15: done two DAYS ago", x.fall(1), STATE);
        due("15: done three DAYS ago", x.fall(0), 1);
    }

    private static void promise15PeopleAway() {
        EveningFalls x = Check.court("k0o20o31o42w00w01w02w04w07p07", 6);
        int[] cans = {32 + 1 + 4 + 8, 32 + 1 + 2 + 8, 32 + 1 + 4, 32 + 1 + 2 + 4 + 8 + 16, 32 + 1 + 8};
        for (int day = 0; day < 5; day++) {
            due("20: who is AWAY on DAY " + day, x.can(), cans[day]);
            for (int w = 0; w < 6; w++) {
                if ((cans[day] >> w & 1) == 0) due("15: " + w + " on DAY " + day, x.fall(w), STATE);
            }
            x.night();
        }
        x.undo(3);
        due("15: all are there on DAY 3", x.fall(4), 0);
    }

    private static void promise15Riots() {
        String[] riots = {"r10", "p10"};
        for (String first : riots) {
            for (String second : riots) {
                String words = "k0" + first + second + "w00";
                EveningFalls x = Check.court(words, 3);
                due("20: all at first, " + words, x.can(), 7);
                x.fall(0);
                due("20: none of both behind one, " + words, x.can(), 4);
                due("15: the same, " + words, x.fall(0), STATE);
                due("15: the other, " + words, x.fall(1), STATE);
                x.fall(2);
                due("20: a WAY between, " + words, x.can(), 7);
                x.fall(1);
                x.night();
                due("20: a night between, " + words, x.can(), 7);
            }
        }
        EveningFalls y = Check.court("k0r00m00l00g00", 4);
        for (int w = 1; w <= 2; w++) {
            due("15: no RIOT, " + w, y.fall(w), 0);
            due("20: a RIOT behind " + w, y.can() & 1, 1);
            y.undo(0);
        }
        y.fall(1);
        y.fall(3);
        due("20: a RIOT behind a REGENT", y.can() & 1, 1);
    }

    private static void promise15Landslides() {
        for (int rest = 0; rest <= 6; rest++) {
            EveningFalls x = Check.court("k" + rest + "l90", 1);
            for (int day = 0; day < 40; day++) {
                due("20: REST " + rest + ", DAY " + day, x.can(), day % 5 == 0 ? 1 : 0);
                if (day % 5 == 0) due("15: DAY " + day, x.fall(0), 4);
                else due("16: DAY " + day, x.night(), day + 1);
            }
            due("15: FULL on DAY 40", x.fall(0), FULL);
        }
    }

    private static void promise15Regents() {
        EveningFalls x = Check.court("k0g50w00r00m00p00l00", 6);
        due("15: on DAY 0", x.fall(0), STATE);
        for (int w = 1; w <= 5; w++) {
            x.fall(w);
            due("15: behind " + w, x.fall(0), 5);
            due("15: behind a REGENT", x.fall(0), 5);
            x.night();
            due("15: behind a night", x.fall(0), STATE);
            x.undo(0);
            due("15: on DAY 0 again", x.fall(0), STATE);
        }
        EveningFalls y = Check.court("k6g50w00", 2);
        y.fall(1);
        y.fall(0);
        due("15: a REGENT rests, too", y.fall(0), STATE);
    }

    private static void promise15Trouble() {
        for (int told = 0; told <= 9; told++) {
            EveningFalls x = Check.court("k0w" + told + "0g" + told + "0r" + told + "0m" + told + "0p" + told + "0l" + told + "0", 6);
            due("15: l" + told, x.fall(5), told / 2);
            due("15: w" + told, x.fall(0), told);
            due("15: g" + told, x.fall(1), told);
            due("15: r" + told, x.fall(2), told);
            due("15: m" + told, x.fall(3), told / 2);
            due("15: p" + told, x.fall(4), told * 2);
            due("37: all TROUBLE", x.count(4), 5 * told + 2 * (told / 2));
            due("37: the DAY", x.count(2), 6);
        }
    }

    private static void promise15Full() {
        EveningFalls x = Check.court("k0w90", 1);
        for (int n = 1; n <= 40; n++) {
            due("15: number " + n, x.fall(0), 9);
            due("37: DEEDS", x.count(3), n);
            due("37: the DAY", x.count(2), n);
            due("37: all TROUBLE", x.count(4), 9 * n);
        }
        due("15: number 41", x.fall(0), FULL);
        due("15: BAD ahead of FULL", x.fall(1), BAD);
        due("37: DEEDS", x.count(3), 40);
    }

    private static void promise15Refused() {
        for (int w : new int[] {-1, 7, LOW, HIGH}) {
            refused("15: fall(" + w + ")", Bounds::busy, y -> y.fall(w), BAD);
            refused("15: fall(" + w + "), full", Bounds::full, y -> y.fall(w), BAD);
            refused("15: fall(" + w + "), bare", Bounds::bare, y -> y.fall(w), BAD);
        }
        refused("15: fall(0), bare", Bounds::bare, y -> y.fall(0), BAD);
        refused("15: the first WAY that there is not", Bounds::full, y -> y.fall(3), BAD);
        // On DAY 4 of busy() only the REGENT can be done.
        for (int w : new int[] {0, 1, 2, 4, 5, 6}) {
            refused("15: fall(" + w + ")", Bounds::busy, y -> y.fall(w), STATE);
        }
        refused("15: FULL", Bounds::full, y -> y.fall(0), FULL);
        refused("15: FULL, another one", Bounds::full, y -> y.fall(2), FULL);
        refused("15: STATE ahead of FULL", Bounds::full, y -> y.fall(1), STATE);
    }

    private static void promise16Nights() {
        EveningFalls x = Check.court("k0w90", 1);
        for (int n = 1; n <= 40; n++) {
            due("16: number " + n + ", though a WAY can be done", x.night(), n);
            due("37: nights", x.count(5), n);
            due("37: DEEDS", x.count(3), n);
        }
        due("16: number 41", x.night(), FULL);
        asks(x, "16: no WAY was done", x.way(0, 4), 0);
        asks(x, "16: no WAY was done", x.way(0, 3), NONE);
        x.undo(39);
        due("16: room again", x.night(), 40);
        due("16: just one", x.night(), FULL);
    }

    private static void promise16Refused() {
        refused("16: no WAYS", Bounds::bare, EveningFalls::night, STATE);
        refused("16: FULL", Bounds::full, EveningFalls::night, FULL);
    }

    private static void promise17Undone() {
        EveningFalls x = busy();
        due("17: from the last one on", x.undo(3), 1);
        due("37: DEEDS", x.count(3), 3);
        due("37: the DAY", x.count(2), 3);
        due("37: nights", x.count(5), 1);
        asks(x, "17: undone", x.way(1, 3), NONE);
        asks(x, "17: undone", x.way(1, 4), 0);
        due("17: it is none any more", x.undo(4), BAD);
        due("17: none", x.undo(3), 0);
        due("17: a night, too", x.undo(2), 1);
        due("37: nights", x.count(5), 0);
        due("37: all TROUBLE", x.count(4), 8);
        due("17: all", x.undo(0), 2);
        due("37: all TROUBLE", x.count(4), 0);
        due("17: none left", x.undo(0), 0);
        due("17: none left", x.undo(1), BAD);
        due("17: can() as at first", x.can(), 114);
        due("17: kept COURTS stay", x.on(2), 3);
        // A WAY done twice: the earlier DAY counts again.
        EveningFalls y = Check.court("k1w10w20", 2);
        y.fall(0);
        y.fall(1);
        y.fall(0);
        due("17: the second one", y.undo(2), 1);
        asks(y, "17: done last", y.way(0, 3), 0);
        asks(y, "17: how often", y.way(0, 4), 1);
        due("17: can()", y.can(), 1);
    }

    private static void promise17AllOfForty() {
        EveningFalls x = full();
        due("17: none of 40", x.undo(40), 0);
        due("17: still FULL", x.night(), FULL);
        due("17: the last of 40", x.undo(39), 1);
        due("17: all the others", x.undo(0), 39);
        due("37: the DAY", x.count(2), 0);
    }

    private static void promise17Refused() {
        for (int n : new int[] {-1, 5, LOW, HIGH}) refused("17: undo(" + n + ")", Bounds::busy, y -> y.undo(n), BAD);
        for (int n : new int[] {-1, 41}) refused("17: undo(" + n + "), full", Bounds::full, y -> y.undo(n), BAD);
        for (int n : new int[] {-1, 1}) refused("17: undo(" + n + "), bare", Bounds::bare, y -> y.undo(n), BAD);
        refused("17: none of 4", Bounds::busy, y -> y.undo(4), 0);
        refused("17: none of none", Bounds::bare, y -> y.undo(0), 0);
    }

    private static void promise18Kept() {
        EveningFalls x = Check.court("k0w10g20", 2);
        for (int k = 0; k <= 2; k++) {
            due("18: keep(" + k + ") of none", x.keep(k), 0);
            due("37: kept COURTS", x.count(10), k + 1);
        }
        x.fall(0);
        due("18: in the same place", x.keep(1), 1);
        due("37: kept COURTS", x.count(10), 3);
        x.fall(1);
        due("18: what is kept does not go on", x.on(1), 1);
        due("18: nor others", x.on(0), 0);
        due("18: nor others", x.on(2), 0);
        due("18: kept of the one gone on from", x.on(1), 1);
        due("18: kept again", x.keep(2), 1);
        due("18: fewer in the place of more", x.undo(0), 1);
        due("18: fewer in the place of more", x.keep(1), 0);
        due("18: fewer in the place of more", x.on(1), 0);
        due("18: the other one stays", x.on(2), 1);
        due("18: all 40", full().keep(0), 40);
    }

    private static void promise18Refused() {
        for (int k : new int[] {-1, 3, LOW, HIGH}) {
            refused("18: keep(" + k + ")", Bounds::busy, y -> y.keep(k), BAD);
            refused("18: BAD ahead of STATE, keep(" + k + ")", Bounds::bare, y -> y.keep(k), BAD);
        }
        for (int k = 0; k <= 2; k++) {
            int place = k;
            refused("18: no WAYS, keep(" + k + ")", Bounds::bare, y -> y.keep(place), STATE);
        }
    }

    private static void promise19On() {
        EveningFalls x = busy();
        long before = x.digest();
        x.keep(1);
        due("19: on(0)", x.on(0), 1);
        due("37: the DAY", x.count(2), 1);
        due("37: all TROUBLE", x.count(4), 4);
        asks(x, "19: done", x.way(5, 4), 1);
        asks(x, "19: not yet done", x.way(0, 4), 0);
        due("19: on(2)", x.on(2), 3);
        due("37: nights", x.count(5), 1);
        due("19: undone from there", x.undo(1), 2);
        due("19: it is kept yet", x.on(2), 3);
        due("19: on(1)", x.on(1), 4);
        due("37: kept COURTS", x.count(10), 3);
        due("37: DEEDS", x.count(3), 4);
        due("20: the REGENT alone", x.can(), 8);
        // ROWS, TEXTS and what was told are no part of a COURT.
        x.row(1, 1);
        x.on(0);
        due("19: ROWS stay", x.count(8), 4);
        x.tear(1);
        x.on(1);
        EveningFalls twin = busy();
        twin.keep(1);
        due("19: all is as it was", x.digest(), twin.digest());
        Check.holds("19: keep() is seen by digest()", before != twin.digest());
    }

    private static void promise19OnOfForty() {
        EveningFalls x = full();
        due("19: undone", x.undo(0), 40);
        due("19: on(1)", x.on(1), 40);
        due("37: the DAY", x.count(2), 40);
        due("19: FULL", x.night(), FULL);
        due("19: the last one was a WAY", x.undo(39), 1);
        asks(x, "19: undone again", x.way(0, 4), 0);
        due("19: from 39 on", x.night(), 40);
        due("19: on(1) again", x.on(1), 40);
        asks(x, "19: it is there again", x.way(0, 3), 39);
    }

    private static void promise19Refused() {
        for (int k : new int[] {-1, 3, LOW, HIGH}) {
            refused("19: on(" + k + ")", Bounds::busy, y -> y.on(k), BAD);
            refused("19: on(" + k + "), bare", Bounds::bare, y -> y.on(k), BAD);
        }
        found("19: on(1)", Bounds::busy, y -> y.on(1), NOTHING);
        for (int k = 0; k <= 2; k++) {
            int place = k;
            found("19: on(" + k + "), bare", Bounds::bare, y -> y.on(place), NOTHING);
        }
        EveningFalls x = busy();
        x.court(0);
        due("19: kept COURTS went", x.on(0), FINDING);
    }

    private static void promise20Sets() {
        due("20: no WAYS", new EveningFalls().can(), 0);
        due("20: all seven", Check.court("k6w00w00w00w00w00w00w00", 7).can(), 127);
        due("20: the seventh alone", Check.court("k0o20w01w01w01w01w01w01w00", 7).can(), 64);
        due("20: the first alone", Check.court("k0o20w00w01w01w01w01w01w01", 7).can(), 1);
        due("20: none", Check.court("k0o20w01w01", 2).can(), 0);
        due("20: also when FULL", full().can(), 5);
        refused("20: aside", Bounds::busy, EveningFalls::can, 8);
        refused("20: aside, full", Bounds::full, EveningFalls::can, 5);
    }
}
