/** Boundary cases of promises 34 to 40: asked(), upper(), lower(), counts, FINDINGS, digest(). */
public final class ToldBoundsTest extends Bounds {
    public static void main(String[] args) {
        constants();
        promise34WhoTells();
        promise34WhoDoesNot();
        promise35And36WhoTells();
        promise35And36WhoDoesNot();
        promise37Most();
        promise37Least();
        promise37Refused();
        promise38EachFinding();
        promise38NoFinding();
        promise39Counted();
        promise39Refused();
        promise40Empty();
        promise40Busy();
        promise40EachPart();
        Check.end();
    }

    private static void asks(EveningFalls x, String what, long want) {
        due(what + ", asked()", x.asked(), want);
        due(what + ", asked() again", x.asked(), want);
    }

    private static void tells(EveningFalls x, String what, long upper, long lower) {
        due(what + ", upper()", x.upper(), upper);
        due(what + ", lower()", x.lower(), lower);
        due(what + ", upper() again", x.upper(), upper);
    }

    private static void constants() {
        due("BAD", EveningFalls.BAD, -1);
        due("FULL", EveningFalls.FULL, -2);
        due("FINDING", EveningFalls.FINDING, -3);
        due("STATE", EveningFalls.STATE, -4);
        due("SPENT", EveningFalls.SPENT, -6);
        due("NONE", EveningFalls.NONE, -9);
    }

    private static void promise34WhoTells() {
        EveningFalls x = Check.court("k0o21w51", 1);
        asks(x, "34: before", 0);
        x.row(0, 2);
        x.lay(0, 0, 8);
        asks(x, "34: lay()", 0);
        x.lay(0, 0, -4);
        asks(x, "34: lay()", 8);
        x.at(0, 0);
        asks(x, "34: at()", -4);
        x.mean(0);
        asks(x, "34: mean()", -2);
        x.way(0, 1);
        asks(x, "34: way()", 5);
        x.way(0, 3);
        asks(x, "34: way(), never", NONE);
        x.takes(1);
        asks(x, "34: takes()", 1);
        x.rounds(1);
        asks(x, "34: rounds()", 0);
        x.lasts(0);
        asks(x, "34: lasts()", 5);
        EveningFalls y = Check.court("k1w50", 1);
        y.way(0, 1);
        y.rounds(1);
        asks(y, "34: rounds(), none", NONE);
        x.lay(0, 1, LOW);
        x.at(0, 1);
        asks(x, "34: the least", LOW);
        x.lay(0, 1, HIGH);
        x.at(0, 1);
        asks(x, "34: the greatest", HIGH);
    }

    private static void promise34WhoDoesNot() {
        Call[] others = {y -> y.row(1, 3), y -> y.tear(0), y -> y.copy(0, 0, 0, 1, 1), y -> y.text(1, 3),
            y -> y.put(0, 0, 1), y -> y.fault(0), y -> y.court(0), y -> y.mark(1, 1), y -> y.away(0), y -> y.fall(3),
            y -> y.night(), y -> y.undo(1), y -> y.keep(0), y -> y.on(0), y -> y.can(), y -> y.plans(1),
            y -> y.least(1, 1), y -> y.longest(1), y -> y.goes(3), y -> y.lost(0, 0), y -> y.kinds(0, 0, 0, 0),
            y -> y.strikes(1), y -> y.odds(1), y -> y.mid(1), y -> y.lots(1, 1), y -> y.upper(), y -> y.lower(),
            y -> y.count(0), y -> y.finding(), y -> y.findings(1), y -> y.digest()};
        for (int i = 0; i < others.length; i++) {
            EveningFalls x = busy();
            Check.holds("34: not refused, call " + i, others[i].to(x) >= 0 || i == 5 || i == 30);
            asks(x, "34: call " + i + " does not tell", 77);
        }
        Call[] refused = {y -> y.lay(0, 3, 1), y -> y.at(0, 3), y -> y.mean(3), y -> y.way(0, 6), y -> y.lasts(3),
            y -> y.takes(7), y -> y.rounds(6), y -> y.lay(6, 0, 0), y -> y.at(1, 0), y -> y.mean(6)};
        for (int i = 0; i < refused.length; i++) {
            EveningFalls x = busy();
            Check.holds("34: refused, call " + i, refused[i].to(x) < 0);
            asks(x, "34: refused, call " + i, 77);
        }
        EveningFalls none = Check.court("k0g70", 1);
        none.way(0, 1);
        due("34: NONE", none.takes(1), NONE);
        asks(none, "34: NONE of takes()", 7);
        due("34: NONE", none.least(1, 0), NONE);
        asks(none, "34: NONE of least()", 7);
    }

    private static void promise35And36WhoTells() {
        EveningFalls x = Check.court("k0o21w41w60", 2);
        tells(x, "35, 36: before", 0, 1);
        x.mid(3);
        tells(x, "35, 36: mid()", 9, 2);
        x.plans(2);
        tells(x, "35, 36: plans()", 2, 1);
        x.mid(1);
        tells(x, "35, 36: mid()", 25, 6);
        x.rounds(2);
        tells(x, "35, 36: rounds()", 4, 1);
        x.odds(5);
        tells(x, "35, 36: odds()", 1, 1);
        EveningFalls y = Check.court("k0o21w01", 1);
        y.odds(10);
        tells(y, "35, 36: odds()", 1, 6);
        y.odds(12);
        tells(y, "35, 36: 0 by 1", 0, 1);
        y.odds(4);
        tells(y, "35, 36: in lowest terms", 2, 3);
        y.mid(0);
        tells(y, "35, 36: 0 by 1", 0, 1);
        y.plans(2);
        tells(y, "35, 36: 0 by 1", 0, 1);
    }

    private static void promise35And36WhoDoesNot() {
        Call[] others = {y -> y.row(1, 3), y -> y.lay(0, 0, 1), y -> y.at(0, 0), y -> y.tear(0),
            y -> y.copy(0, 0, 0, 1, 1), y -> y.mean(0), y -> y.text(1, 3), y -> y.put(0, 0, 1), y -> y.fault(0),
            y -> y.court(0), y -> y.way(0, 1), y -> y.mark(1, 1), y -> y.away(0), y -> y.fall(3), y -> y.night(),
            y -> y.undo(1), y -> y.keep(0), y -> y.on(0), y -> y.can(), y -> y.least(1, 1), y -> y.longest(1),
            y -> y.goes(3), y -> y.lasts(1), y -> y.takes(1), y -> y.lost(0, 0), y -> y.kinds(0, 0, 0, 0),
            y -> y.strikes(1), y -> y.lots(1, 1), y -> y.asked(), y -> y.count(0), y -> y.finding(),
            y -> y.findings(1), y -> y.digest(),
            y -> y.plans(7), y -> y.plans(-1), y -> y.rounds(0), y -> y.rounds(6), y -> y.odds(13), y -> y.odds(-1),
            y -> y.mid(13), y -> y.mid(-1), y -> y.row(6, -1), y -> y.at(1, 0)};
        for (int i = 0; i < others.length; i++) {
            EveningFalls x = busy();
            others[i].to(x);
            tells(x, "35, 36: call " + i + " does not tell", 27, 8);
        }
    }

    private static void countsAre(EveningFalls x, String what, int... counts) {
        for (int i = 0; i < counts.length; i++) due("37: " + what + ", count(" + i + ")", x.count(i), counts[i]);
    }

    private static void promise37Most() {
        EveningFalls x = Check.court("k0o20o20o20p97p97p97p97p97p97p97", 7);
        for (int r = 0; r <= 5; r++) x.row(r, 0);
        for (int t = 1; t <= 3; t++) x.text(t, 0);
        for (int k = 0; k <= 2; k++) x.keep(k);
        for (int i = 0; i < 40; i++) x.night();
        countsAre(x, "all there is", 7, 3, 40, 40, 800, 40, 7, 0, 6, 4, 3);
        EveningFalls y = Check.court("k0m90m90m90l90l90m90m90", 7);
        for (int i = 0; i < 40; i++) y.fall(i % 3);
        countsAre(y, "all of MIMED ones", 7, 0, 40, 40, 160, 0, 0, 7, 0, 1, 0);
    }

    private static void promise37Least() {
        countsAre(new EveningFalls(), "new", 0, 0, 0, 0, 0, 0, 0, 0, 0, 0, 0);
        EveningFalls x = Check.court("k0w00", 1);
        countsAre(x, "the least COURT", 1, 0, 0, 0, 0, 0, 0, 0, 0, 1, 0);
        x.fall(0);
        countsAre(x, "one DEED of no TROUBLE", 1, 0, 1, 1, 0, 0, 0, 0, 0, 1, 0);
        x.keep(2);
        countsAre(x, "kept", 1, 0, 1, 1, 0, 0, 0, 0, 0, 1, 1);
        x.keep(2);
        countsAre(x, "kept again", 1, 0, 1, 1, 0, 0, 0, 0, 0, 1, 1);
        EveningFalls each = Check.court("k0w00r00m00g00p00l00", 6);
        countsAre(each, "one of each KIND", 6, 0, 0, 0, 0, 0, 2, 2, 0, 1, 0);
    }

    private static void promise37Refused() {
        for (int what : new int[] {-1, 11, LOW, HIGH}) {
            refused("37: count(" + what + ")", Bounds::busy, y -> y.count(what), BAD);
            refused("37: count(" + what + "), bare", Bounds::bare, y -> y.count(what), BAD);
        }
    }

    private static void promise38EachFinding() {
        EveningFalls x = full();
        due("38: before any", x.finding(), 0);
        x.row(0, 0);
        Call[] calls = {y -> y.at(1, 0), y -> y.at(0, 0), y -> y.mark(0, 1), y -> y.mean(0), y -> y.row(1, -1)};
        int[] findings = {NOTHING, BEYOND, UNLIKE, NOUGHT, SIZE};
        for (int i = 0; i < 5; i++) {
            due("38: call " + i, calls[i].to(x), FINDING);
            due("38: finding()", x.finding(), findings[i]);
            due("38: finding() again", x.finding(), findings[i]);
        }
        due("38: an earlier one again", x.at(1, 0), FINDING);
        due("38: the latest", x.finding(), NOTHING);
    }

    private static void promise38NoFinding() {
        Call[] calls = {y -> y.row(6, -1), y -> y.row(0, 41), y -> y.court(2), y -> y.fall(0), y -> y.fall(7),
            y -> y.least(3, 9), y -> y.fault(0), y -> y.fault(2), y -> y.way(0, 3), y -> y.row(1, 1), y -> y.night(),
            y -> y.findings(0), y -> y.count(11), y -> y.digest()};
        for (int i = 0; i < calls.length; i++) {
            EveningFalls x = busy();
            calls[i].to(x);
            due("38: no finding by call " + i, x.finding(), UNLIKE);
            for (int f = 1; f <= 5; f++) due("39: no finding by call " + i, x.findings(f), f);
        }
        Call[] ofNone = {y -> y.plans(0), y -> y.keep(0), y -> y.night(), y -> y.on(3), y -> y.goes(0)};
        for (int i = 0; i < ofNone.length; i++) {
            EveningFalls x = new EveningFalls();
            ofNone[i].to(x);
            due("38: still before any, call " + i, x.finding(), 0);
        }
        EveningFalls full = full();
        full.night();
        due("38: FULL is no finding", full.finding(), 0);
    }

    private static void promise39Counted() {
        EveningFalls x = busy();
        for (int f = 1; f <= 5; f++) due("39: findings(" + f + ")", x.findings(f), f);
        for (int i = 0; i < 100; i++) x.at(1, 0);
        due("39: a hundred more", x.findings(NOTHING), 101);
        due("39: the others stay", x.findings(BEYOND), 2);
        x.court(0);
        due("39: a COURT anew does not matter", x.findings(NOTHING), 101);
        EveningFalls bare = new EveningFalls();
        for (int f = 1; f <= 5; f++) due("39: none yet", bare.findings(f), 0);
    }

    private static void promise39Refused() {
        for (int f : new int[] {0, -1, 6, LOW, HIGH}) {
            refused("39: findings(" + f + ")", Bounds::busy, y -> y.findings(f), BAD);
            refused("39: findings(" + f + "), bare", Bounds::bare, y -> y.findings(f), BAD);
        }
    }

    private static long digestOf(long... told) {
        long h = 17;
        for (long v : told) h = 31 * h + v;
        return h;
    }

    private static void promise40Empty() {
        due("40: a new object", new EveningFalls().digest(), digestOf(
                0, 0, 0, 0, 0, 0, 0, 0, 0, 0, 0, 0, 0, 0, 0, 0, 0, 0,
                -1, -1, -1, -1, -1, -1, -1, -1, -1, -1, -1, -1, -1));
        EveningFalls x = new EveningFalls();
        x.row(0, 0);
        x.row(5, 1);
        x.text(0, 0);
        x.text(3, 2);
        x.put(3, 0, 128);
        due("40: empty ones, bytes below 0", x.digest(), digestOf(
                0, 0, 0, 0, 0, 0, 0, 0, 2, 2, 0, 0, 0, 0, 0, 0, 0, 0,
                -1, -1, -1, 0, -1, -1, -1, -1, 1, 0, 0, -1, -1, 2, -128, 32));
    }

    private static void promise40Busy() {
        EveningFalls x = Check.court("k1o21o30w43p92m70", 3);
        x.fall(1);
        x.keep(1);
        x.fall(2);
        x.row(1, 2);
        x.lay(1, 0, LOW);
        x.lay(1, 1, HIGH);
        x.undo(1);
        due("40: DAY 1", x.digest(), digestOf(
                3, 2, 1, 1, 18, 0, 1, 1, 1, 1, 1, 2, 1, 0, 3, 0, 1, 2,
                0, 4, 3, NONE, 0, 0, 4, 18, 0, 0, 1, 0, 2, 3, 0, NONE, 0, 1,
                -1, 1, -1, -1, 2, LOW, HIGH, -1, -1, -1, -1,
                17, 'k', '1', 'o', '2', '1', 'o', '3', '0', 'w', '4', '3', 'p', '9', '2', 'm', '7', '0', -1, -1, -1));
    }

    /** Whatever is changed is seen, and undone again it is as before. */
    private static void promise40EachPart() {
        Call[] changes = {y -> y.row(1, 0), y -> y.row(3, 1), y -> y.lay(5, 0, 1), y -> y.lay(5, 39, 8),
            y -> y.tear(3), y -> y.text(1, 0), y -> y.put(3, 0, 33), y -> y.put(3, 59, 201), y -> y.court(0),
            y -> y.fall(3), y -> y.night(), y -> y.undo(3), y -> y.keep(0), y -> y.keep(1), y -> y.on(0),
            y -> y.lots(1, 1)};
        long before = busy().digest();
        for (int i = 0; i < changes.length; i++) {
            EveningFalls x = busy();
            changes[i].to(x);
            Check.holds("40: change " + i + " is seen", x.digest() != before);
        }
        EveningFalls x = busy();
        due("40: told again alike", x.digest(), before);
        due("40: told again alike", x.digest(), before);
        x.fall(3);
        x.undo(4);
        due("40: undone again", x.digest(), before);
        x.plans(2);
        x.at(0, 0);
        x.at(0, 9);
        due("40: what is told, found is no part of it", x.digest(), before);
    }
}
