import java.util.ArrayList;
import java.util.List;

/**
 * What the tests of boundary cases share. Whether a refused call changes nothing is seen by two objects made
 * alike: one is asked what must be refused, then both are looked over.
 */
abstract class Bounds {
    static final int BAD = -1, FULL = -2, FINDING = -3, STATE = -4, SPENT = -6, NONE = -9;
    static final int NOTHING = 1, BEYOND = 2, UNLIKE = 3, NOUGHT = 4, SIZE = 5;
    static final int LOW = Integer.MIN_VALUE, HIGH = Integer.MAX_VALUE;
    static final int[] NO_ROW = {-1, 6, LOW, HIGH};
    static final int[] NO_TEXT = {-1, 4, LOW, HIGH};
    /** REST 3; PEOPLE away on even DAYS, on 1, 4, .., on 5, 12, ..; one WAY of each KIND, and a RIOT more. */
    static final String SEVEN = "k3o20o31o75 w41r32m71g20p57l94r60";

    interface Made {
        EveningFalls get();
    }

    interface Call {
        long to(EveningFalls x);
    }

    static void due(String what, long got, long want) {
        Check.due(what, got, want);
    }

    static void asks(EveningFalls x, String what, int got, int want) {
        due(what, got, 1);
        due(what + ", asked()", x.asked(), want);
    }

    static void tells(EveningFalls x, String what, int got, long upper, long lower) {
        due(what, got, 1);
        due(what + ", upper()", x.upper(), upper);
        due(what + ", lower()", x.lower(), lower);
    }

    /** The places of a ROW are just these. */
    static void rowIs(EveningFalls x, String what, int r, int... places) {
        for (int i = 0; i < places.length; i++) asks(x, what + ": place " + i, x.at(r, i), places[i]);
        due(what + ": behind its end", x.at(r, places.length), FINDING);
        due(what + ": BEYOND", x.finding(), BEYOND);
    }

    /** BAD in every state, so also ahead of STATE and FULL. */
    static void bad(String what, Call call) {
        refused(what + ", busy", Bounds::busy, call, BAD);
        refused(what + ", full", Bounds::full, call, BAD);
        refused(what + ", bare", Bounds::bare, call, BAD);
    }

    /** BAD, FULL, STATE, or NONE: it changes nothing at all. */
    static void refused(String what, Made made, Call call, int answer) {
        EveningFalls asked = made.get();
        EveningFalls left = made.get();
        due(what, call.to(asked), answer);
        alike(what, asked, left, 0);
    }

    /** FINDING: it changes finding() and one of findings() alone. */
    static void found(String what, Made made, Call call, int finding) {
        EveningFalls asked = made.get();
        EveningFalls left = made.get();
        due(what, call.to(asked), FINDING);
        alike(what, asked, left, finding);
    }

    private static void alike(String what, EveningFalls asked, EveningFalls left, int finding) {
        due(what + ": finding()", asked.finding(), finding == 0 ? left.finding() : finding);
        for (int f = NOTHING; f <= SIZE; f++) {
            due(what + ": findings(" + f + ")", asked.findings(f), left.findings(f) + (f == finding ? 1 : 0));
        }
        List<Long> seen = lookOver(asked);
        List<Long> want = lookOver(left);
        Check.holds(what + " changes nothing else", seen.equals(want));
    }

    /** All that can be seen of an object, its DEEDS one by one, then those of the kept COURTS; it is spent by it. */
    private static List<Long> lookOver(EveningFalls x) {
        List<Long> seen = new ArrayList<>(List.of((long) x.asked(), x.upper(), x.lower(), x.digest(), (long) x.can()));
        for (int w = 0; w < 7; w++) {
            seen.add((long) x.mark(w, 2));
            seen.add((long) x.mark(w, 4));
        }
        seen.add((long) x.plans(3));
        seen.add(x.upper());
        lookBack(x, seen);
        for (int k = 0; k < 3; k++) {
            seen.add((long) x.on(k));
            seen.add(x.digest());
            lookBack(x, seen);
        }
        return seen;
    }

    private static void lookBack(EveningFalls x, List<Long> seen) {
        for (int n = x.count(3) - 1; n >= 0; n--) {
            seen.add((long) x.undo(n));
            seen.add(x.digest());
        }
    }

    static EveningFalls bare() {
        return new EveningFalls();
    }

    /**
     * SEVEN on DAY 4, DEEDS 5, 0, a night, 1; kept are 1 DEED in place 0 and 3 DEEDS in place 2; ROW 0 is
     * 5, -7, 77, ROW 3 empty, ROW 5 of 40; TEXT 2 is empty, TEXT 3 of 60; ROWS 1, 2, 4 and TEXT 1 are
     * missing; asked() is 77, upper() by lower() 27 by 8; each FINDING f was answered f times, last UNLIKE.
     */
    static EveningFalls busy() {
        EveningFalls x = Check.court(SEVEN, 7);
        x.mid(3);
        x.fall(5);
        x.keep(0);
        x.fall(0);
        x.night();
        x.keep(2);
        x.fall(1);
        x.row(0, 3);
        x.lay(0, 0, 5);
        x.lay(0, 1, -7);
        x.lay(0, 2, 77);
        x.row(3, 0);
        x.row(5, 40);
        x.lay(5, 39, 9);
        x.text(2, 0);
        x.text(3, 60);
        x.put(3, 59, 200);
        x.at(1, 0);
        for (int i = 0; i < 2; i++) x.at(0, 3);
        for (int i = 0; i < 4; i++) x.mean(3);
        for (int i = 0; i < 5; i++) x.row(1, -1);
        for (int i = 0; i < 3; i++) x.mark(0, 1);
        x.at(0, 2);
        return x;
    }

    /** 40 DEEDS, kept in place 1; WAYS 0 and 2 could be done, the REGENT 1 NEEDS somebody who is AWAY. */
    static EveningFalls full() {
        EveningFalls x = Check.court("k0o20w10g01r30", 3);
        for (int i = 0; i < 39; i++) x.night();
        x.fall(0);
        x.keep(1);
        return x;
    }
}
