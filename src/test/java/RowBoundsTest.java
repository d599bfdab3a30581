/** Boundary cases of promises 1 to 9: a new object, ROWS, TEXTS. */
public final class RowBoundsTest extends Bounds {
    public static void main(String[] args) {
        promise1NothingIsThere();
        promise1NothingCanBeDone();
        promise2SizesOfRows();
        promise2RowsMadeAnew();
        promise3And4Places();
        promise3And4Refused();
        promise5Torn();
        promise6Places();
        promise6Overlaps();
        promise6Refused();
        promise7Cut();
        promise7Refused();
        promise8SizesOfTexts();
        promise9Bytes();
        promise9Refused();
        Check.end();
    }

    private static void found(String what, Call call, int finding) {
        found(what, Bounds::busy, call, finding);
    }

    private static void promise1NothingIsThere() {
        EveningFalls x = new EveningFalls();
        due("1: asked()", x.asked(), 0);
        due("1: upper()", x.upper(), 0);
        due("1: lower()", x.lower(), 1);
        due("1: finding()", x.finding(), 0);
        for (int f = 1; f <= 5; f++) due("1: findings(" + f + ")", x.findings(f), 0);
        for (int what = 0; what <= 10; what++) due("1: count(" + what + ")", x.count(what), 0);
        due("1: can()", x.can(), 0);
        due("1: away(0)", x.away(0), 0);
        due("1: away(999)", x.away(999), 0);
        due("1: undo(0)", x.undo(0), 0);
        for (int r = 0; r <= 5; r++) {
            int row = r;
            found("1: at(" + r + ", 0)", Bounds::bare, y -> y.at(row, 0), NOTHING);
            found("1: lay(" + r + ", 0, 1)", Bounds::bare, y -> y.lay(row, 0, 1), NOTHING);
            found("1: tear(" + r + ")", Bounds::bare, y -> y.tear(row), NOTHING);
            found("1: mean(" + r + ")", Bounds::bare, y -> y.mean(row), NOTHING);
            found("1: copy(" + r + ", ..)", Bounds::bare, y -> y.copy(row, 0, row, 0, 0), NOTHING);
        }
        for (int t = 0; t <= 3; t++) {
            int text = t;
            found("1: put(" + t + ", 0, 1)", Bounds::bare, y -> y.put(text, 0, 1), NOTHING);
            found("1: fault(" + t + ")", Bounds::bare, y -> y.fault(text), NOTHING);
            found("1: court(" + t + ")", Bounds::bare, y -> y.court(text), NOTHING);
        }
        for (int k = 0; k <= 2; k++) {
            int place = k;
            found("1: on(" + k + ")", Bounds::bare, y -> y.on(place), NOTHING);
        }
    }

    private static void promise1NothingCanBeDone() {
        Call[] calls = {y -> y.night(), y -> y.keep(0), y -> y.plans(0), y -> y.least(0, 0), y -> y.longest(0),
            y -> y.goes(0), y -> y.lasts(0), y -> y.takes(0), y -> y.rounds(1), y -> y.lost(0, 0), y -> y.strikes(0),
            y -> y.odds(0), y -> y.mid(0), y -> y.lots(1, 1)};
        for (int i = 0; i < calls.length; i++) {
            refused("1: no WAYS, call " + i, Bounds::bare, calls[i], STATE);
        }
        Call[] ofNoWay = {y -> y.way(0, 0), y -> y.mark(0, 1), y -> y.fall(0), y -> y.kinds(0, 0, 0, 0),
            y -> y.undo(1)};
        for (int i = 0; i < ofNoWay.length; i++) {
            refused("1: no WAY 0, call " + i, Bounds::bare, ofNoWay[i], BAD);
        }
    }

    private static void promise2SizesOfRows() {
        EveningFalls x = new EveningFalls();
        for (int r = 0; r <= 5; r++) {
            due("2: least size", x.row(r, 0), 0);
            due("2: next size", x.row(r, 1), 1);
            due("2: last size but one", x.row(r, 39), 39);
            due("2: greatest size", x.row(r, 40), 40);
            due("2: ROWS that are there", x.count(8), r + 1);
        }
        for (int r : NO_ROW) {
            bad("2: row(" + r + ", 1)", y -> y.row(r, 1));
            bad("2: row(" + r + ", -1), BAD ahead of SIZE", y -> y.row(r, -1));
            bad("2: row(" + r + ", 41)", y -> y.row(r, 41));
        }
        for (int r : new int[] {0, 1, 5}) {
            bad("2: row(" + r + ", 41)", y -> y.row(r, 41));
            bad("2: row(" + r + ", HIGH)", y -> y.row(r, HIGH));
            found("2: row(" + r + ", -1)", y -> y.row(r, -1), SIZE);
            found("2: row(" + r + ", LOW)", y -> y.row(r, LOW), SIZE);
            found("2: row(" + r + ", -1)", Bounds::bare, y -> y.row(r, -1), SIZE);
        }
    }

    private static void promise2RowsMadeAnew() {
        EveningFalls x = new EveningFalls();
        x.row(2, 40);
        for (int i = 0; i < 40; i++) x.lay(2, i, i + 1);
        due("2: anew, smaller", x.row(2, 3), 3);
        rowIs(x, "2: anew, smaller", 2, 0, 0, 0);
        due("2: anew, larger", x.row(2, 40), 40);
        rowIs(x, "2: anew, larger", 2, new int[40]);
        due("2: anew, empty", x.row(2, 0), 0);
        rowIs(x, "2: anew, empty", 2);
        due("2: still one ROW", x.count(8), 1);
    }

    private static void promise3And4Places() {
        EveningFalls x = new EveningFalls();
        for (int n : new int[] {1, 2, 40}) {
            x.row(4, n);
            asks(x, "3: the least place of " + n, x.lay(4, 0, LOW), 0);
            asks(x, "3: what it was", x.lay(4, 0, -1), LOW);
            asks(x, "4: the least place of " + n, x.at(4, 0), -1);
            asks(x, "3: the greatest place of " + n, x.lay(4, n - 1, HIGH), n == 1 ? -1 : 0);
            asks(x, "3: what it was", x.lay(4, n - 1, 1), HIGH);
            asks(x, "4: the greatest place of " + n, x.at(4, n - 1), 1);
            asks(x, "4: told twice alike", x.at(4, n - 1), 1);
        }
        asks(x, "3: the others stay", x.at(4, 1), 0);
        asks(x, "3: the others stay", x.at(4, 38), 0);
        asks(x, "3: it lays what there was", x.lay(4, 0, -1), -1);
    }

    private static void promise3And4Refused() {
        for (int r : NO_ROW) {
            bad("3: lay(" + r + ", 0, 1)", y -> y.lay(r, 0, 1));
            bad("3: lay(" + r + ", -1, 1)", y -> y.lay(r, -1, 1));
            bad("4: at(" + r + ", 0)", y -> y.at(r, 0));
            bad("4: at(" + r + ", -1)", y -> y.at(r, -1));
        }
        for (int i : new int[] {-1, 0, 40, LOW, HIGH}) {
            found("3: NOTHING ahead of BEYOND, " + i, y -> y.lay(1, i, 1), NOTHING);
            found("4: NOTHING ahead of BEYOND, " + i, y -> y.at(1, i), NOTHING);
        }
        for (int i : new int[] {-1, 3, LOW, HIGH}) {
            found("3: lay(0, " + i + ", 1)", y -> y.lay(0, i, 1), BEYOND);
            found("4: at(0, " + i + ")", y -> y.at(0, i), BEYOND);
        }
        for (int i : new int[] {-1, 40}) {
            found("3: lay(5, " + i + ", 1)", y -> y.lay(5, i, 1), BEYOND);
            found("4: at(5, " + i + ")", y -> y.at(5, i), BEYOND);
        }
        for (int i : new int[] {-1, 0, 1}) {
            found("3: of an empty ROW, " + i, y -> y.lay(3, i, 1), BEYOND);
            found("4: of an empty ROW, " + i, y -> y.at(3, i), BEYOND);
        }
    }

    private static void promise5Torn() {
        EveningFalls x = busy();
        due("5: the first", x.tear(0), 1);
        due("5: an empty one", x.tear(3), 1);
        due("5: the last", x.tear(5), 1);
        due("5: ROWS that are there", x.count(8), 0);
        due("5: asked() stays", x.asked(), 77);
        due("5: torn, at()", x.at(0, 0), FINDING);
        due("5: torn, NOTHING", x.finding(), NOTHING);
        due("5: torn, goes()", x.goes(0), FINDING);
        due("5: torn, NOTHING", x.finding(), NOTHING);
        due("5: anew", x.row(0, 3), 3);
        rowIs(x, "5: anew", 0, 0, 0, 0);
        for (int r : NO_ROW) bad("5: tear(" + r + ")", y -> y.tear(r));
        for (int r : new int[] {1, 2, 4}) found("5: tear(" + r + ")", y -> y.tear(r), NOTHING);
    }

    private static EveningFalls counted() {
        EveningFalls x = new EveningFalls();
        x.row(0, 5);
        x.row(1, 2);
        x.row(5, 0);
        for (int i = 0; i < 5; i++) x.lay(0, i, i + 1);
        for (int i = 0; i < 2; i++) x.lay(1, i, -1 - i);
        return x;
    }

    private static void promise6Places() {
        EveningFalls x = counted();
        due("6: as many as there are there", x.copy(0, 3, 1, 0, 2), 1);
        rowIs(x, "6: to its end, from the end", 1, 4, 5);
        due("6: the first one alone", x.copy(0, 0, 1, 1, 1), 1);
        rowIs(x, "6: to the last one", 1, 4, 1);
        due("6: none, at both ends", x.copy(0, 5, 1, 2, 0), 1);
        due("6: none, at both starts", x.copy(0, 0, 1, 0, 0), 1);
        due("6: none of an empty ROW", x.copy(5, 0, 5, 0, 0), 1);
        due("6: none to an empty ROW", x.copy(0, 5, 5, 0, 0), 1);
        due("6: none from an empty ROW", x.copy(5, 0, 0, 5, 0), 1);
        rowIs(x, "6: none", 1, 4, 1);
        rowIs(x, "6: where it came from", 0, 1, 2, 3, 4, 5);
        due("6: all of 40", x.row(2, 40), 40);
        due("6: all of 40", x.row(3, 40), 40);
        for (int i = 0; i < 40; i++) x.lay(2, i, 100 + i);
        int told = x.asked();
        due("6: all of 40", x.copy(2, 0, 3, 0, 40), 1);
        due("6: asked() stays", x.asked(), told);
        asks(x, "6: first of 40", x.at(3, 0), 100);
        asks(x, "6: last of 40", x.at(3, 39), 139);
    }

    private static void promise6Overlaps() {
        EveningFalls x = counted();
        due("6: itself on itself", x.copy(0, 0, 0, 0, 5), 1);
        rowIs(x, "6: itself on itself", 0, 1, 2, 3, 4, 5);
        due("6: one place on", x.copy(0, 0, 0, 1, 4), 1);
        rowIs(x, "6: one place on", 0, 1, 1, 2, 3, 4);
        due("6: one place back", x.copy(0, 1, 0, 0, 4), 1);
        rowIs(x, "6: one place back", 0, 1, 2, 3, 4, 4);
        due("6: three places on", x.copy(0, 0, 0, 3, 2), 1);
        rowIs(x, "6: three places on", 0, 1, 2, 3, 1, 2);
    }

    private static void promise6Refused() {
        for (int r : NO_ROW) {
            bad("6: from " + r, y -> y.copy(r, 0, 0, 0, 1));
            bad("6: to " + r, y -> y.copy(0, 0, r, 0, 1));
            bad("6: BAD ahead of SIZE, from " + r, y -> y.copy(r, 0, 0, 0, -1));
            bad("6: BAD ahead of SIZE, to " + r, y -> y.copy(0, 0, r, 0, -1));
            bad("6: BAD ahead of NOTHING, to " + r, y -> y.copy(1, 0, r, 0, 1));
            bad("6: BAD ahead of BEYOND, to " + r, y -> y.copy(0, -1, r, 0, 1));
        }
        for (int n : new int[] {-1, LOW}) {
            found("6: SIZE, " + n, RowBoundsTest::counted, y -> y.copy(0, 0, 1, 0, n), SIZE);
            found("6: SIZE ahead of NOTHING", RowBoundsTest::counted, y -> y.copy(2, 0, 3, 0, n), SIZE);
            found("6: SIZE ahead of BEYOND", RowBoundsTest::counted, y -> y.copy(0, -1, 1, 9, n), SIZE);
        }
        found("6: NOTHING, from", y -> y.copy(1, 0, 0, 0, 1), NOTHING);
        found("6: NOTHING, to", y -> y.copy(0, 0, 1, 0, 1), NOTHING);
        found("6: NOTHING, though none are wanted", y -> y.copy(0, 0, 1, 0, 0), NOTHING);
        found("6: NOTHING ahead of BEYOND, from", y -> y.copy(1, -1, 0, 0, 1), NOTHING);
        found("6: NOTHING ahead of BEYOND, to", y -> y.copy(0, -1, 1, 0, 1), NOTHING);
        int[][] beyond = {{0, 0, 1, 0, 3}, {0, 0, 1, 1, 2}, {0, 0, 1, 2, 1}, {0, 4, 1, 0, 2}, {0, 5, 1, 0, 1},
            {1, 0, 0, 0, 3}, {0, 6, 1, 0, 0}, {0, 0, 1, 3, 0}, {0, -1, 1, 0, 1}, {0, 0, 1, -1, 1}, {0, -1, 1, 0, 0},
            {0, 0, 1, -1, 0}, {0, 0, 0, 0, 6}, {0, 0, 0, 1, 5}, {0, 1, 0, 0, 5}, {5, 0, 0, 0, 1}, {0, 0, 5, 0, 1},
            {0, 0, 1, 0, HIGH}, {0, 1, 1, 0, HIGH}, {0, HIGH, 1, 0, HIGH}, {0, 0, 1, HIGH, HIGH}, {0, HIGH, 1, 0, 0},
            {0, LOW, 1, 0, HIGH}, {0, 0, 1, LOW, 1}, {0, 0, 1, HIGH, 1}, {0, HIGH, 1, HIGH, 1}};
        for (int[] b : beyond) {
            found("6: copy(" + b[0] + ", " + b[1] + ", " + b[2] + ", " + b[3] + ", " + b[4] + ")",
                    RowBoundsTest::counted, y -> y.copy(b[0], b[1], b[2], b[3], b[4]), BEYOND);
        }
    }

    private static void meanIs(int want, int... places) {
        EveningFalls x = new EveningFalls();
        x.row(5, places.length);
        for (int i = 0; i < places.length; i++) x.lay(5, i, places[i]);
        asks(x, "7: the mean of " + java.util.Arrays.toString(places), x.mean(5), want);
    }

    private static int[] many(int n, int v) {
        int[] places = new int[n];
        java.util.Arrays.fill(places, v);
        return places;
    }

    private static void promise7Cut() {
        meanIs(0, 0);
        meanIs(7, 7);
        meanIs(LOW, LOW);
        meanIs(HIGH, HIGH);
        meanIs(0, 1, 0);
        meanIs(0, -1, 0);
        meanIs(1, 1, 2);
        meanIs(-1, -1, -2);
        meanIs(1, 1, 1, 3);
        meanIs(-1, -1, -1, -3);
        meanIs(0, HIGH, LOW);
        meanIs(HIGH, many(40, HIGH));
        meanIs(LOW, many(40, LOW));
        meanIs(HIGH - 1, HIGH, HIGH - 1);
        meanIs(LOW + 1, LOW, LOW + 1);
    }

    private static void promise7Refused() {
        for (int r : NO_ROW) bad("7: mean(" + r + ")", y -> y.mean(r));
        found("7: NOTHING", y -> y.mean(1), NOTHING);
        found("7: NOUGHT", y -> y.mean(3), NOUGHT);
    }

    private static void promise8SizesOfTexts() {
        EveningFalls x = new EveningFalls();
        for (int t = 0; t <= 3; t++) {
            due("8: least size", x.text(t, 0), 0);
            due("8: next size", x.text(t, 1), 1);
            due("8: last size but one", x.text(t, 59), 59);
            due("8: greatest size", x.text(t, 60), 60);
            due("8: TEXTS that are there", x.count(9), t + 1);
            for (int i = 0; i < 60; i++) due("8: a blank, and anything laid over it", x.put(t, i, 65 + i), 1032);
        }
        for (int t = 0; t <= 3; t++) {
            x.text(t, 60);
            due("8: a blank anew", x.put(t, 0, 1), 1032);
            due("8: a blank anew", x.put(t, 59, 1), 1032);
        }
        for (int t : NO_TEXT) {
            bad("8: text(" + t + ", 1)", y -> y.text(t, 1));
            bad("8: text(" + t + ", -1), BAD ahead of SIZE", y -> y.text(t, -1));
            bad("8: text(" + t + ", 61)", y -> y.text(t, 61));
        }
        for (int t = 0; t <= 3; t++) {
            int text = t;
            bad("8: text(" + t + ", 61)", y -> y.text(text, 61));
            bad("8: text(" + t + ", HIGH)", y -> y.text(text, HIGH));
            found("8: text(" + t + ", -1)", y -> y.text(text, -1), SIZE);
            found("8: text(" + t + ", LOW)", y -> y.text(text, LOW), SIZE);
        }
    }

    private static void promise9Bytes() {
        EveningFalls x = new EveningFalls();
        x.text(1, 60);
        int[] laid = {0, 127, 128, 255, 256, 257, -1, -128, -129, -256, LOW, HIGH, 383, 384};
        int[] cut = {0, 127, -128, -1, 0, 1, -1, -128, 127, 0, 0, -1, 127, -128};
        int before = 32;
        for (int k = 0; k < laid.length; k++) {
            due("9: ahead of " + laid[k], x.put(1, 59, laid[k]), 1000 + before);
            before = cut[k];
        }
        due("9: the last one", x.put(1, 59, 0), 1000 + before);
        due("9: the least place", x.put(1, 0, 7), 1032);
        due("9: the least place", x.put(1, 0, 7), 1007);
        due("9: the others stay", x.put(1, 1, 7), 1032);
        due("9: the others stay", x.put(1, 58, 7), 1032);
        due("9: asked() is not told", x.asked(), 0);
        due("9: one byte", x.text(2, 1), 1);
        due("9: one byte", x.put(2, 0, 9), 1032);
    }

    private static void promise9Refused() {
        for (int t : NO_TEXT) {
            bad("9: put(" + t + ", 0, 1)", y -> y.put(t, 0, 1));
            bad("9: put(" + t + ", -1, 1)", y -> y.put(t, -1, 1));
        }
        for (int i : new int[] {-1, 0, 60, LOW, HIGH}) {
            found("9: NOTHING ahead of BEYOND, " + i, y -> y.put(1, i, 1), NOTHING);
        }
        for (int i : new int[] {-1, 33, LOW, HIGH}) found("9: put(0, " + i + ", 1)", y -> y.put(0, i, 1), BEYOND);
        for (int i : new int[] {-1, 60}) found("9: put(3, " + i + ", 1)", y -> y.put(3, i, 1), BEYOND);
        for (int i : new int[] {-1, 0, 1}) found("9: of an empty TEXT, " + i, y -> y.put(2, i, 1), BEYOND);
    }
}
