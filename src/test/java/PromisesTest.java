/** Each promise by itself: ordinary inputs, edges that the document names, wrong inputs. */
public final class PromisesTest extends Bounds {
    public static void main(String[] args) {
        newObject();
        rowsLaidAndTorn();
        rowsCopied();
        rowsMeant();
        textsPut();
        faults();
        faultsByCount();
        courts();
        waysTold();
        waysMarked();
        peopleAway();
        falls();
        regents();
        riots();
        mimedAndLandslides();
        nights();
        undone();
        keptAndOn();
        fullOfDeeds();
        plansCounted();
        leastTrouble();
        longestPlans();
        plansThatGo();
        rulesOfTheUsher();
        peopleTaken();
        roundsForEver();
        lostDays();
        kindsOfWays();
        struckOut();
        chances();
        means();
        lotsDrawn();
        countsAndFindings();
        digests();
        Check.end();
    }

    private static void finds(EveningFalls x, String what, int got, int finding) {
        due(what, got, FINDING);
        due(what + ", finding()", x.finding(), finding);
    }

    private static void newObject() {
        EveningFalls x = new EveningFalls();
        for (int what = 0; what <= 10; what++) due("1: count(" + what + ")", x.count(what), 0);
        due("1: asked()", x.asked(), 0);
        due("1: upper()", x.upper(), 0);
        due("1: lower()", x.lower(), 1);
        due("1: finding()", x.finding(), 0);
        due("1: can()", x.can(), 0);
        due("1: away(0)", x.away(0), 0);
        for (int r = 0; r <= 5; r++) finds(x, "1: tear(" + r + ")", x.tear(r), 1);
        for (int t = 0; t <= 3; t++) finds(x, "1: fault(" + t + ")", x.fault(t), 1);
        due("1: undo(0)", x.undo(0), 0);
        due("1: undo(1)", x.undo(1), BAD);
        int[] refused = {x.night(), x.keep(0), x.plans(0), x.least(0, 0), x.longest(0), x.goes(0), x.lasts(0),
            x.takes(0), x.rounds(1), x.lost(0, 0), x.strikes(0), x.odds(0), x.mid(0), x.lots(1, 1)};
        for (int i = 0; i < refused.length; i++) due("1: no WAYS, call " + i, refused[i], STATE);
        due("1: lost(0, 1)", x.lost(0, 1), BAD);
        due("1: fall(0)", x.fall(0), BAD);
        due("1: way(0, 0)", x.way(0, 0), BAD);
        due("1: mark(0, 1)", x.mark(0, 1), BAD);
        due("1: kinds(0, 0, 0, 0)", x.kinds(0, 0, 0, 0), BAD);
    }

    private static void rowsLaidAndTorn() {
        EveningFalls x = new EveningFalls();
        due("2: row(0, 40)", x.row(0, 40), 40);
        due("2: row(0, 41)", x.row(0, 41), BAD);
        due("2: row(6, 1)", x.row(6, 1), BAD);
        due("2: row(-1, -1)", x.row(-1, -1), BAD);
        finds(x, "2: row(5, -1)", x.row(5, -1), 5);
        finds(x, "2: row(0, LOW)", x.row(0, LOW), 5);
        due("2: row(5, 0)", x.row(5, 0), 0);
        asks(x, "3: lay(0, 39, HIGH)", x.lay(0, 39, HIGH), 0);
        asks(x, "3: lay(0, 39, LOW)", x.lay(0, 39, LOW), HIGH);
        asks(x, "4: at(0, 39)", x.at(0, 39), LOW);
        finds(x, "3: lay(0, 40, 1)", x.lay(0, 40, 1), 2);
        finds(x, "3: lay(0, -1, 1)", x.lay(0, -1, 1), 2);
        finds(x, "3: lay(1, 0, 1)", x.lay(1, 0, 1), 1);
        due("3: lay(6, 0, 1)", x.lay(6, 0, 1), BAD);
        finds(x, "4: at(5, 0)", x.at(5, 0), 2);
        finds(x, "4: at(1, 0)", x.at(1, 0), 1);
        due("4: at(-1, 0)", x.at(-1, 0), BAD);
        due("4: asked() stays", x.asked(), LOW);
        due("2: row(0, 40) anew", x.row(0, 40), 40);
        asks(x, "2: its ints are 0", x.at(0, 39), 0);
        due("5: tear(0)", x.tear(0), 1);
        finds(x, "5: tear(0) again", x.tear(0), 1);
        due("5: tear(6)", x.tear(6), BAD);
        due("5: tear(LOW)", x.tear(LOW), BAD);
        due("37: ROWS that are there", x.count(8), 1);
    }

    private static void rowsCopied() {
        EveningFalls x = new EveningFalls();
        x.row(0, 6);
        for (int i = 0; i < 6; i++) x.lay(0, i, i + 1);
        due("6: onto itself, ahead", x.copy(0, 0, 0, 1, 5), 1);
        int[] ahead = {1, 1, 2, 3, 4, 5};
        for (int i = 0; i < 6; i++) asks(x, "6: at(0, " + i + ")", x.at(0, i), ahead[i]);
        due("6: onto itself, back", x.copy(0, 2, 0, 0, 4), 1);
        int[] back = {2, 3, 4, 5, 4, 5};
        for (int i = 0; i < 6; i++) asks(x, "6: at(0, " + i + ")", x.at(0, i), back[i]);
        x.row(1, 2);
        due("6: to another", x.copy(0, 3, 1, 0, 2), 1);
        asks(x, "6: at(1, 0)", x.at(1, 0), 5);
        asks(x, "6: at(1, 1)", x.at(1, 1), 4);
        due("6: none at the ends", x.copy(0, 6, 1, 2, 0), 1);
        finds(x, "6: too many there", x.copy(0, 0, 1, 1, 2), 2);
        finds(x, "6: too many here", x.copy(1, 1, 0, 0, 2), 2);
        finds(x, "6: none behind the end", x.copy(0, 7, 1, 0, 0), 2);
        finds(x, "6: i below 0", x.copy(0, -1, 1, 0, 1), 2);
        finds(x, "6: j below 0", x.copy(0, 0, 1, -1, 0), 2);
        finds(x, "6: far too many", x.copy(0, 1, 1, 1, HIGH), 2);
        finds(x, "6: far behind", x.copy(0, HIGH, 1, HIGH, 1), 2);
        finds(x, "6: SIZE ahead of NOTHING", x.copy(2, 0, 3, 0, -1), 5);
        finds(x, "6: NOTHING, from", x.copy(2, 0, 0, 0, 1), 1);
        finds(x, "6: NOTHING, to", x.copy(0, 0, 2, 9, 1), 1);
        due("6: BAD from", x.copy(6, 0, 0, 0, -1), BAD);
        due("6: BAD to", x.copy(0, 0, -1, 0, -1), BAD);
    }

    private static void rowsMeant() {
        EveningFalls x = new EveningFalls();
        x.row(0, 2);
        x.lay(0, 0, -4);
        x.lay(0, 1, -3);
        asks(x, "7: cut, below 0", x.mean(0), -3);
        x.lay(0, 0, 4);
        x.lay(0, 1, 3);
        asks(x, "7: cut", x.mean(0), 3);
        x.row(1, 40);
        for (int i = 0; i < 40; i++) x.lay(1, i, HIGH);
        asks(x, "7: no wrap-around", x.mean(1), HIGH);
        x.row(2, 0);
        finds(x, "7: NOUGHT", x.mean(2), 4);
        finds(x, "7: NOTHING", x.mean(3), 1);
        due("7: BAD", x.mean(6), BAD);
        due("7: asked() stays", x.asked(), HIGH);
    }

    private static void textsPut() {
        EveningFalls x = new EveningFalls();
        due("8: text(3, 60)", x.text(3, 60), 60);
        due("8: text(3, 61)", x.text(3, 61), BAD);
        due("8: text(4, 1)", x.text(4, 1), BAD);
        due("8: text(-1, -1)", x.text(-1, -1), BAD);
        finds(x, "8: text(0, -1)", x.text(0, -1), 5);
        due("9: put(3, 59, 200)", x.put(3, 59, 200), 1032);
        due("9: bytes go below 0", x.put(3, 59, 256 + 7), 944);
        due("9: cut to a byte", x.put(3, 59, -129), 1007);
        due("9: cut to a byte", x.put(3, 59, 128), 1127);
        due("9: -128", x.put(3, 59, 0), 872);
        finds(x, "9: put(3, 60, 1)", x.put(3, 60, 1), 2);
        finds(x, "9: put(3, -1, 1)", x.put(3, -1, 1), 2);
        finds(x, "9: put(0, 0, 1)", x.put(0, 0, 1), 1);
        due("9: put(4, 0, 1)", x.put(4, 0, 1), BAD);
        due("8: blanks anew", x.text(3, 60), 60);
        due("8: blanks anew", x.put(3, 59, 1), 1032);
        due("9: asked() is not told", x.asked(), 0);
    }

    private static void faultIs(String words, int place) {
        EveningFalls x = new EveningFalls();
        Check.write(x, 1, words);
        due("10: fault of '" + words + "'", x.fault(1), place);
        if (place != NONE) {
            due("11: court of '" + words + "'", x.court(1), STATE);
            due("11: no WAYS by '" + words + "'", x.count(0), 0);
            due("11: STATE is no finding", x.finding(), 0);
        }
    }

    private static void faults() {
        faultIs("k0w00", NONE);
        faultIs("  k6   o76  w91  ", NONE);
        faultIs("k0o21o32o43w07r16m25g34p43l52w61", NONE);
        faultIs("", 0);
        faultIs("    ", 4);
        faultIs("x0w00", 0);
        faultIs(" w00", 1);
        faultIs("k", 1);
        faultIs("k7w00", 1);
        faultIs("k w00", 1);
        faultIs("k0", 2);
        faultIs("k0  ", 4);
        faultIs("k0k0", 2);
        faultIs("k0o", 3);
        faultIs("k0o1", 3);
        faultIs("k0o8", 3);
        faultIs("k0o2", 4);
        faultIs("k0o22w00", 4);
        faultIs("k0o77w00", 4);
        faultIs("k0o 20w00", 3);
        faultIs("k0o20", 5);
        faultIs("k0o20 q00", 6);
        faultIs("k0w", 3);
        faultIs("k0wx0", 3);
        faultIs("k0w0", 4);
        faultIs("k0w01", 4);
        faultIs("k0w0 0", 4);
        faultIs("k0o20w01", NONE);
        faultIs("k0o20w02", 7);
        faultIs("k0o20o20w03", NONE);
        faultIs("k0o20o20w04", 10);
        faultIs("k0o20o20o20w07", NONE);
        faultIs("k0o20o20o20w08", 13);
        faultIs("k0w00o20", 5);
        faultIs("k0w00 x", 6);
        faultIs("k01w00", 2);
        faultIs("K0w00", 0);
        faultIs("k0W00", 2);
    }

    private static void faultsByCount() {
        faultIs("k0o20o20o20o20w00", 11);
        faultIs("k0w00w00w00w00w00w00w00", NONE);
        faultIs("k0w00w00w00w00w00w00w00w00", 23);
        faultIs("k0w00w00w00w00w00w00w00 x", 24);
        EveningFalls x = new EveningFalls();
        x.text(0, 5);
        due("10: fault(4)", x.fault(4), BAD);
        due("10: fault(-1)", x.fault(-1), BAD);
        finds(x, "10: fault(1)", x.fault(1), 1);
        Check.write(x, 0, "k0w00");
        x.put(0, 2, 119 - 256);
        due("10: a byte below 0 is cut back", x.fault(0), NONE);
        x.put(0, 2, 247);
        due("10: a byte that is no letter", x.fault(0), 2);
    }

    private static void courts() {
        EveningFalls x = Check.court("k2o20w51r30", 2);
        x.row(0, 3);
        x.fall(1);
        x.keep(0);
        x.keep(2);
        due("11: court(4)", x.court(4), BAD);
        finds(x, "11: court(3)", x.court(3), 1);
        Check.write(x, 1, "k2o20w52");
        due("11: a FAULT", x.court(1), STATE);
        due("11: a FAULT changes nothing, DEEDS", x.count(3), 1);
        due("11: a FAULT changes nothing, WAYS", x.count(0), 2);
        due("11: a FAULT changes nothing, kept", x.count(10), 2);
        due("11: court(0) anew", x.court(0), 2);
        due("11: DAY 0", x.count(2), 0);
        due("11: no DEEDS", x.count(3), 0);
        due("11: no TROUBLE", x.count(4), 0);
        due("11: kept COURTS go", x.count(10), 0);
        asks(x, "11: nothing done", x.way(1, 3), NONE);
        finds(x, "11: kept COURTS go", x.on(0), 1);
        due("11: ROWS stay", x.count(8), 1);
        x.put(0, 6, '9');
        asks(x, "11: a TEXT changed later changes nothing", x.way(0, 1), 5);
    }

    private static void waysTold() {
        EveningFalls x = Check.court(SEVEN, 7);
        int[] kinds = {0, 1, 2, 3, 4, 5, 1};
        int[] troubles = {4, 3, 3, 2, 10, 4, 6};
        int[] needs = {1, 2, 1, 0, 0, 4, 0};
        int[] cans = {0, 1, 0, 0, 1, 1, 1};
        for (int w = 0; w < 7; w++) {
            asks(x, "12: KIND", x.way(w, 0), kinds[w]);
            asks(x, "12: TROUBLE", x.way(w, 1), troubles[w]);
            asks(x, "12: NEEDS", x.way(w, 2), needs[w]);
            asks(x, "12: never", x.way(w, 3), NONE);
            asks(x, "12: how often", x.way(w, 4), 0);
            asks(x, "12: now", x.way(w, 5), cans[w]);
        }
        due("12: way(7, 0)", x.way(7, 0), BAD);
        due("12: way(-1, 0)", x.way(-1, 0), BAD);
        due("12: way(0, 6)", x.way(0, 6), BAD);
        due("12: way(0, -1)", x.way(0, -1), BAD);
        EveningFalls y = Check.court("k0w10w20", 2);
        y.fall(0);
        y.fall(1);
        y.fall(0);
        asks(y, "12: the DAY", y.way(0, 3), 2);
        asks(y, "12: how often", y.way(0, 4), 2);
        asks(y, "12: the DAY", y.way(1, 3), 1);
        asks(y, "12: how often", y.way(1, 4), 1);
    }

    private static void waysMarked() {
        EveningFalls x = Check.court(SEVEN, 7);
        due("13: RIOT", x.mark(1, 1), 2);
        due("13: PROXY as RIOT", x.mark(4, 1), 2);
        due("13: PROXY", x.mark(4, 4), 3);
        due("13: MIMED", x.mark(2, 2), 2);
        due("13: LANDSLIDE as MIMED", x.mark(5, 2), 2);
        due("13: LANDSLIDE, now", x.mark(5, 5), 0);
        due("13: REGENT", x.mark(3, 3), 0);
        finds(x, "13: a RIOT is no PROXY", x.mark(1, 4), 3);
        finds(x, "13: a MIMED one is no LANDSLIDE", x.mark(2, 5), 3);
        finds(x, "13: a WAY is no RIOT", x.mark(0, 1), 3);
        finds(x, "13: a REGENT is no RIOT", x.mark(3, 1), 3);
        due("13: KIND 0", x.mark(0, 0), BAD);
        due("13: KIND 6", x.mark(0, 6), BAD);
        due("13: no WAY", x.mark(7, 1), BAD);
        x.fall(4);
        due("13: REGENT behind a WAY", x.mark(3, 3), 1);
        for (int days = 4; days >= 0; days--) {
            due("13: LANDSLIDE, in " + days, x.mark(5, 5), days);
            x.night();
        }
        due("13: REGENT behind a night", x.mark(3, 3), 0);
        for (int rest = 0; rest <= 6; rest++) {
            due("13: half of REST, and 1", Check.court("k" + rest + "m00", 1).mark(0, 2), rest / 2 + 1);
        }
    }

    private static void peopleAway() {
        EveningFalls x = bare();
        for (int day = 0; day <= 999; day++) {
            // An object is good for 512 calls.
            if (day % 400 == 0) x = Check.court(SEVEN, 7);
            int bits = (day % 2 == 0 ? 1 : 0) + (day % 3 == 1 ? 2 : 0) + (day % 7 == 5 ? 4 : 0);
            due("14: away(" + day + ")", x.away(day), bits);
        }
        due("14: away(-1)", x.away(-1), BAD);
        due("14: away(1000)", x.away(1000), BAD);
    }

    private static void falls() {
        EveningFalls x = Check.court("k2o20w51w30", 2);
        due("15: fall(2)", x.fall(2), BAD);
        due("15: fall(-1)", x.fall(-1), BAD);
        due("15: who it NEEDS is AWAY", x.fall(0), STATE);
        due("15: fall(1)", x.fall(1), 3);
        due("15: the DAY", x.count(2), 1);
        due("15: again too soon", x.fall(1), STATE);
        due("15: fall(0)", x.fall(0), 5);
        due("15: all TROUBLE", x.count(4), 8);
        due("15: still too soon", x.fall(1), STATE);
        due("15: none can", x.can(), 0);
        x.night();
        due("15: REST is over", x.can(), 2);
        due("15: DEEDS", x.count(3), 3);
        EveningFalls y = Check.court("k0w90", 1);
        due("15: REST 0", y.fall(0), 9);
        due("15: REST 0, again", y.fall(0), 9);
        EveningFalls z = Check.court("k6w90", 1);
        due("15: REST 6", z.fall(0), 9);
        for (int i = 0; i < 6; i++) {
            due("15: REST 6, not yet", z.fall(0), STATE);
            z.night();
        }
        due("15: REST 6, again", z.fall(0), 9);
    }

    private static void regents() {
        EveningFalls x = Check.court("k0g40w00", 2);
        due("15: REGENT on DAY 0", x.fall(0), STATE);
        x.fall(1);
        due("15: REGENT behind a WAY", x.fall(0), 4);
        due("15: REGENT behind a REGENT", x.fall(0), 4);
        x.night();
        due("15: REGENT behind a night", x.fall(0), STATE);
    }

    private static void riots() {
        EveningFalls x = Check.court("k0o20r10p91w20r40", 4);
        due("15: PROXY, twice; NEEDS nobody", x.fall(1), 18);
        due("20: no RIOT behind a PROXY", x.can(), 4);
        x.fall(2);
        due("20: all", x.can(), 15);
        x.fall(0);
        due("20: no RIOT behind a RIOT", x.can(), 4);
        x.night();
        due("20: a night parts them", x.can(), 15);
    }

    private static void mimedAndLandslides() {
        EveningFalls x = Check.court("k5m90l70w10", 3);
        due("15: LANDSLIDE, half, cut", x.fall(1), 3);
        due("15: MIMED, half, cut", x.fall(0), 4);
        due("20: only DAYS that 5 divides; half of REST", x.can(), 4);
        x.night();
        due("20: still", x.can(), 4);
        x.night();
        due("20: MIMED may come again on the third DAY", x.can(), 5);
        x.night();
        due("20: LANDSLIDE on DAY 5", x.can(), 7);
        x.fall(2);
        due("20: not on DAY 6; REST 5", x.can(), 1);
    }

    private static void nights() {
        EveningFalls x = Check.court("k0w90", 1);
        due("16: the DAY then", x.night(), 1);
        due("16: the DAY then", x.night(), 2);
        due("16: nights", x.count(5), 2);
        due("16: DEEDS", x.count(3), 2);
        due("16: TROUBLE of a night is 20", x.count(4), 40);
        due("16: no WAYS", new EveningFalls().night(), STATE);
    }

    private static void undone() {
        EveningFalls x = Check.court("k2w10w20r30", 3);
        x.fall(0);
        x.fall(2);
        x.night();
        x.fall(0);
        due("17: undo(5)", x.undo(5), BAD);
        due("17: undo(-1)", x.undo(-1), BAD);
        due("17: none of them", x.undo(4), 0);
        due("17: undo(1)", x.undo(1), 3);
        due("17: the DAY", x.count(2), 1);
        due("17: all TROUBLE", x.count(4), 1);
        due("17: nights", x.count(5), 0);
        due("17: can()", x.can(), 6);
        asks(x, "17: done last", x.way(0, 3), 0);
        asks(x, "17: how often", x.way(0, 4), 1);
        asks(x, "17: never", x.way(2, 3), NONE);
        due("17: undo(0)", x.undo(0), 1);
        due("17: can() all", x.can(), 7);
    }

    private static void keptAndOn() {
        EveningFalls x = Check.court("k1w10w20", 2);
        due("18: keep(0)", x.keep(0), 0);
        x.fall(1);
        x.night();
        due("18: keep(2)", x.keep(2), 2);
        due("18: keep(3)", x.keep(3), BAD);
        due("18: keep(-1)", x.keep(-1), BAD);
        due("18: no WAYS", new EveningFalls().keep(0), STATE);
        due("18: no WAYS, BAD first", new EveningFalls().keep(3), BAD);
        x.fall(0);
        due("19: on(0)", x.on(0), 0);
        due("19: DAY 0", x.count(2), 0);
        due("19: on(2)", x.on(2), 2);
        due("19: all TROUBLE", x.count(4), 22);
        asks(x, "19: done last", x.way(1, 3), 0);
        asks(x, "19: never", x.way(0, 3), NONE);
        finds(x, "19: on(1)", x.on(1), 1);
        due("19: on(3)", x.on(3), BAD);
        due("19: on(-1)", x.on(-1), BAD);
        x.undo(0);
        due("19: what is kept stays", x.on(2), 2);
        due("37: kept COURTS", x.count(10), 2);
    }

    private static void fullOfDeeds() {
        EveningFalls x = Check.court("k0w10g00", 2);
        due("33: lots(20, 1)", x.lots(20, 1), 0);
        due("33: lots(19, 1)", x.lots(19, 1), 0);
        due("33: one too many", x.lots(2, 1), FULL);
        due("33: BAD first", x.lots(21, 1), BAD);
        x.night();
        due("15: FULL", x.fall(0), FULL);
        due("15: STATE ahead of FULL", x.fall(1), STATE);
        due("15: BAD ahead of both", x.fall(2), BAD);
        due("16: FULL", x.night(), FULL);
        due("33: FULL", x.lots(1, 1), FULL);
        tells(x, "21: plans aside", x.plans(1), 1, 1);
        due("15: nothing changed", x.count(3), 40);
        due("18: all 40 are kept", x.keep(0), 40);
        x.undo(0);
        due("19: all 40 are there again", x.on(0), 40);
        due("19: the DAY", x.count(2), 40);
        x.undo(39);
        due("15: room again", x.fall(0), 1);
    }

    private static void plansCounted() {
        EveningFalls x = Check.court("k0w90r10m50", 3);
        long[] many = {1, 3, 8, 22, 60, 164, 448};
        for (int n = 0; n <= 6; n++) tells(x, "21: plans(" + n + ")", x.plans(n), many[n], 1);
        due("21: plans(7)", x.plans(7), BAD);
        due("21: plans(-1)", x.plans(-1), BAD);
        due("21: upper() stays", x.upper(), 448);
        due("21: aside", x.count(3), 0);
        due("21: BAD ahead of STATE", new EveningFalls().plans(7), BAD);
        EveningFalls y = Check.court("k0w00w00w00w00w00w00w00", 7);
        tells(y, "21: the most", y.plans(6), 117649, 1);
        EveningFalls z = Check.court("k6w00", 1);
        tells(z, "21: none", z.plans(2), 0, 1);
    }

    private static void leastTrouble() {
        EveningFalls x = Check.court("k1w50w20w20w70", 4);
        due("22: least(3, 4)", x.least(3, 4), 6);
        asks(x, "22: the first of these", x.at(4, 0), 1);
        asks(x, "22: the first of these", x.at(4, 1), 2);
        asks(x, "22: the first of these", x.at(4, 2), 1);
        finds(x, "22: anew", x.at(4, 3), 2);
        due("22: least(0, 4)", x.least(0, 4), 0);
        finds(x, "22: a ROW of none", x.at(4, 0), 2);
        due("22: the ROW is there", x.count(8), 1);
        due("22: least(6, 5)", x.least(6, 5), 12);
        due("22: least(7, 0)", x.least(7, 0), BAD);
        due("22: least(-1, 0)", x.least(-1, 0), BAD);
        due("22: least(1, 6)", x.least(1, 6), BAD);
        EveningFalls y = Check.court("k6w50w20", 2);
        y.row(0, 5);
        due("22: NONE", y.least(3, 0), NONE);
        finds(y, "22: NONE leaves the ROW", y.at(0, 5), 2);
        asks(y, "22: NONE leaves the ROW", y.at(0, 4), 0);
        EveningFalls z = Check.court("k2r10w90w90", 3);
        due("22: not by the least of a night", z.least(3, 0), 19);
    }

    private static void longestPlans() {
        EveningFalls x = Check.court("k6w50g20w10", 3);
        due("23: longest(0)", x.longest(0), 3);
        asks(x, "23: the first one", x.at(0, 0), 0);
        asks(x, "23: the first one", x.at(0, 1), 1);
        asks(x, "23: the first one", x.at(0, 2), 2);
        x.fall(0);
        x.fall(1);
        x.fall(2);
        x.row(1, 9);
        due("23: none", x.longest(1), 0);
        finds(x, "23: anew, of none", x.at(1, 0), 2);
        due("23: longest(6)", x.longest(6), BAD);
        EveningFalls y = Check.court("k0w00", 1);
        due("23: 6 at most", y.longest(0), 6);
        asks(y, "23: 6 places", y.at(0, 5), 0);
    }

    private static void plansThatGo() {
        EveningFalls x = Check.court("k1w10w20", 2);
        x.row(0, 12);
        for (int i = 0; i < 12; i++) x.lay(0, i, i % 2);
        due("24: all", x.goes(0), 12);
        x.lay(0, 7, 0);
        due("24: as far as it goes", x.goes(0), 7);
        x.lay(0, 11, 2);
        finds(x, "24: UNLIKE, though behind", x.goes(0), 3);
        x.lay(0, 11, -1);
        finds(x, "24: UNLIKE", x.goes(0), 3);
        x.row(1, 13);
        x.lay(1, 0, 9);
        finds(x, "24: SIZE ahead of UNLIKE", x.goes(1), 5);
        finds(x, "24: NOTHING", x.goes(2), 1);
        due("24: BAD", x.goes(6), BAD);
        x.row(3, 0);
        due("24: a ROW of none", x.goes(3), 0);
        x.row(5, 3);
        x.lay(5, 1, 9);
        x.least(1, 5);
        due("24: what stood behind is gone", x.goes(5), 1);
        due("24: STATE ahead of NOTHING", new EveningFalls().goes(0), STATE);
        x.fall(0);
        x.row(4, 2);
        due("24: from now on", x.goes(4), 0);
        due("24: aside", x.count(3), 1);
    }

    private static void rulesOfTheUsher() {
        EveningFalls x = Check.court("k0w90r10m50", 3);
        due("25: rule 0", x.lasts(0), 60);
        due("25: all TROUBLE", x.asked(), 540);
        due("25: rule 1", x.lasts(1), 60);
        due("25: RIOT and MIMED by turns", x.asked(), 90);
        due("25: rule 2", x.lasts(2), 60);
        due("25: each by turns", x.asked(), 240);
        due("25: rule 3", x.lasts(3), BAD);
        due("25: rule -1", x.lasts(-1), BAD);
        EveningFalls y = Check.court("k6w50w20", 2);
        due("25: till there is none", y.lasts(0), 2);
        due("25: TROUBLE till then", y.asked(), 7);
        y.fall(0);
        y.fall(1);
        due("25: now", y.lasts(2), 0);
        due("25: no TROUBLE", y.asked(), 0);
        EveningFalls z = Check.court("k0w10w20w30", 3);
        z.fall(1);
        z.fall(2);
        z.fall(0);
        z.fall(0);
        due("25: longest ago", z.lasts(2), 60);
        due("25: longest ago", z.asked(), 120);
        // The first one NEEDS somebody who is AWAY on the next DAY: taken second, it ends the list.
        EveningFalls even = Check.court("k1o21w11w10", 2);
        due("25: rule 1, the first of these", even.lasts(1), 60);
        due("25: rule 2, the first of these", even.lasts(2), 60);
    }

    private static void peopleTaken() {
        EveningFalls x = Check.court("k1o21o31o41w01w02w04w06", 4);
        due("26: one", x.takes(1), 1);
        due("26: the least number", x.asked(), 1);
        due("26: nobody", x.takes(0), 0);
        due("26: nobody", x.asked(), 0);
        due("26: takes(7)", x.takes(7), BAD);
        due("26: takes(-1)", x.takes(-1), BAD);
        EveningFalls y = Check.court("k1o21o71o71w03w04w06w02", 4);
        due("26: all are AWAY on DAY 1", y.takes(3), NONE);
        due("26: fewest of all", y.takes(1), 1);
        due("26: fewest of all", y.asked(), 2);
        EveningFalls v = Check.court("k1o76o76o76w04w06w01w02", 4);
        due("26: takes(6)", v.takes(6), 2);
        due("26: the least number of two", v.asked(), 3);
        EveningFalls z = Check.court("k6o21o71p03w02", 2);
        due("26: a PROXY NEEDS nobody", z.takes(1), 0);
        asks(z, "26: asked() stays with NONE", z.way(0, 0), 4);
        due("26: NONE", z.takes(3), NONE);
        due("26: asked() stays with NONE", z.asked(), 4);
    }

    private static void roundsForEver() {
        EveningFalls x = Check.court("k0w90r10m50", 3);
        tells(x, "27: rounds(1)", x.rounds(1), 2, 1);
        due("27: the first", x.asked(), 0);
        tells(x, "27: rounds(2), two RIOTS out", x.rounds(2), 8, 1);
        tells(x, "27: rounds(5)", x.rounds(5), 152, 1);
        due("27: rounds(0)", x.rounds(0), BAD);
        due("27: rounds(6)", x.rounds(6), BAD);
        EveningFalls y = Check.court("k3m00l00g00r00", 4);
        tells(y, "27: none", y.rounds(1), 0, 1);
        due("27: NONE", y.asked(), NONE);
        tells(y, "27: half of REST is not enough for one", y.rounds(2), 0, 1);
        tells(y, "27: REST 3, in 4 DAYS, MIMED twice", y.rounds(4), 4, 1);
        due("27: the first", y.asked(), 0);
        EveningFalls z = Check.court("k0o20r00p01w01", 3);
        tells(z, "27: nobody AWAY; the same RIOT", z.rounds(1), 1, 1);
        due("27: the first", z.asked(), 2);
        tells(z, "27: RIOTS at the seam", z.rounds(3), 7, 1);
        due("27: the first", z.asked(), 0);
    }

    private static void lostDays() {
        EveningFalls x = Check.court(SEVEN, 7);
        due("28: lost(0, 4)", x.lost(0, 4), 32);
        due("28: LANDSLIDES by DAYS", x.lost(1, 4), 0);
        due("28: AWAY", x.lost(5, 4), 0);
        due("28: nobody; a PROXY, a REGENT on DAY 0", x.lost(0, 0), 88);
        due("28: just these", x.lost(3, 1), 5);
        due("28: lost(999, 2)", x.lost(999, 2), 2);
        due("28: lost(1000, 2)", x.lost(1000, 2), BAD);
        due("28: lost(-1, 2)", x.lost(-1, 2), BAD);
        due("28: lost(0, 8)", x.lost(0, 8), BAD);
        due("28: lost(0, -1)", x.lost(0, -1), BAD);
        x.fall(6);
        due("28: all else aside", x.lost(0, 0), 88);
        EveningFalls y = Check.court("k0o20w01", 1);
        due("28: those that there are", y.lost(1, 1), 1);
        due("28: no such set", y.lost(1, 2), BAD);
    }

    private static void kindsOfWays() {
        EveningFalls x = Check.court(SEVEN, 7);
        due("29: kinds(0, 0, 4, 1)", x.kinds(0, 0, 4, 1), 11);
        due("29: a PROXY", x.kinds(0, 0, 8, 0), 16);
        due("29: a PROXY of none", x.kinds(0, 0, 8, 1), 0);
        due("29: half, on DAY 0", x.kinds(0, 0, 2, 1), 36);
        due("29: half, on DAY 1", x.kinds(0, 1, 2, 1), 4);
        due("29: half, on DAY 995", x.kinds(0, 995, 2, 1), 36);
        due("29: on DAY 999", x.kinds(0, 999, 2, 1), 4);
        due("29: another set", x.kinds(0, 0, 4, 3), 0);
        EveningFalls y = Check.court("k0w00", 1);
        due("29: all", y.kinds(0, 5, 0, 0), 63);
        due("29: all but one", y.kinds(0, 6, 0, 0), 31);
        due("29: a set beyond PEOPLE", y.kinds(0, 6, 0, 7), 0);
        due("29: TROUBLE 18", y.kinds(0, 6, 18, 0), 0);
        due("29: TROUBLE 19", y.kinds(0, 6, 19, 0), BAD);
        due("29: TROUBLE -1", y.kinds(0, 6, -1, 0), BAD);
        due("29: set 8", y.kinds(0, 6, 0, 8), BAD);
        due("29: set -1", y.kinds(0, 6, 0, -1), BAD);
        due("29: DAY 1000", y.kinds(0, 1000, 0, 0), BAD);
        due("29: DAY -1", y.kinds(0, -1, 0, 0), BAD);
        due("29: no WAY", y.kinds(1, 0, 0, 0), BAD);
    }

    private static void struckOut() {
        EveningFalls x = Check.court("k0w90r10m50", 3);
        due("30: none", x.strikes(0), 0);
        due("30: the second one", x.strikes(1), 2);
        due("30: all struck out in the end", x.strikes(3), 38);
        due("30: strikes(4)", x.strikes(4), BAD);
        due("30: strikes(-1)", x.strikes(-1), BAD);
        due("30: aside", x.count(3), 0);
        EveningFalls y = Check.court("k0w90", 1);
        due("30: none left", y.strikes(3), 60);
        // A cheap RIOT, if he REIGNS today, is better than two dear evenings.
        EveningFalls z = Check.court("k0o20p90r01r01r01", 4);
        due("30: he REIGNS though he need not", z.strikes(2), 20);
    }

    private static void chances() {
        EveningFalls x = Check.court("k0o21o31w21w52", 2);
        tells(x, "31: all come", x.odds(0), 1, 1);
        tells(x, "31: 1 - 1/16", x.odds(3), 15, 16);
        tells(x, "31: nobody comes", x.odds(12), 0, 1);
        due("31: odds(13)", x.odds(13), BAD);
        due("31: odds(-1)", x.odds(-1), BAD);
        x.night();
        tells(x, "31: both are AWAY", x.odds(0), 0, 1);
        x.night();
        tells(x, "31: 1 - 25/144", x.odds(5), 119, 144);
        x.night();
        tells(x, "31: one is AWAY", x.odds(5), 7, 12);
        due("31: BAD ahead of STATE", new EveningFalls().odds(13), BAD);
    }

    private static void means() {
        EveningFalls x = Check.court("k0o21o31w21w52", 2);
        tells(x, "32: all come", x.mid(0), 2, 1);
        tells(x, "32: 3/4 2 + 3/16 5 + 1/16 20", x.mid(3), 59, 16);
        tells(x, "32: nobody comes", x.mid(12), 20, 1);
        due("32: mid(13)", x.mid(13), BAD);
        due("32: mid(-1)", x.mid(-1), BAD);
        due("32: upper() stays", x.upper(), 20);
        EveningFalls y = Check.court("k0w00", 1);
        tells(y, "32: 0 by 1", y.mid(7), 0, 1);
    }

    private static void lotsDrawn() {
        EveningFalls x = Check.court("k0w10w20w30", 3);
        due("33: lots(4, 1)", x.lots(4, 1), 0);
        long lot = 1;
        int[] often = new int[3];
        for (int i = 0; i < 4; i++) {
            lot = lot * 48271 % 2147483647L;
            often[(int) (lot / 8 % 3)]++;
        }
        for (int w = 0; w < 3; w++) asks(x, "33: how often", x.way(w, 4), often[w]);
        due("33: truly", x.count(2), 4);
        EveningFalls y = Check.court("k1w10", 1);
        due("33: nights", y.lots(20, 2147483646), 10);
        due("33: nights in all", y.count(5), 10);
        due("33: nights of these", y.lots(1, 5), 0);
        due("33: nights of these", y.lots(2, 5), 1);
        due("33: lots(0, 1)", y.lots(0, 1), BAD);
        due("33: lots(21, 1)", y.lots(21, 1), BAD);
        due("33: lots(1, 0)", y.lots(1, 0), BAD);
        due("33: lots(1, HIGH)", y.lots(1, HIGH), BAD);
        due("33: lots(1, LOW)", y.lots(1, LOW), BAD);
        due("33: FULL", y.lots(18, 1), FULL);
        due("33: just not FULL", y.lots(17, 1), 9);
        // 48271 by 8 is 6033; modulo 2 it is 1: that one is AWAY, and the first behind it is 0.
        EveningFalls z = Check.court("k0o20w10w21", 2);
        due("33: behind the last one the first", z.lots(1, 1), 0);
        asks(z, "33: behind the last one the first", z.way(0, 4), 1);
        // 6033 modulo 4 is 1: that one is AWAY, and 2 is behind it.
        EveningFalls v = Check.court("k0o20w10w21w30w40", 4);
        due("33: the first one behind it", v.lots(1, 1), 0);
        asks(v, "33: the first one behind it", v.way(2, 4), 1);
    }

    private static void countsAndFindings() {
        EveningFalls x = Check.court(SEVEN, 7);
        x.row(0, 1);
        x.row(3, 1);
        x.fall(4);
        x.night();
        x.keep(1);
        int[] counts = {7, 3, 2, 2, 30, 1, 3, 2, 2, 1, 1};
        for (int what = 0; what <= 10; what++) due("37: count(" + what + ")", x.count(what), counts[what]);
        due("37: count(11)", x.count(11), BAD);
        due("37: count(-1)", x.count(-1), BAD);
        x.at(1, 0);
        x.at(0, 1);
        x.at(0, 1);
        x.mark(0, 1);
        x.row(2, 0);
        x.mean(2);
        due("38: finding()", x.finding(), 4);
        x.row(2, -1);
        int[] often = {BAD, 1, 2, 1, 1, 1, BAD};
        for (int f = 0; f <= 6; f++) due("39: findings(" + f + ")", x.findings(f), often[f]);
        x.row(9, -1);
        due("38: BAD is none", x.finding(), 5);
        // What is told by upper(), lower() is not told by asked(), and the other way round.
        EveningFalls y = Check.court("k0w70", 1);
        asks(y, "34: asked()", y.way(0, 1), 7);
        tells(y, "35, 36: upper(), lower()", y.plans(3), 1, 1);
        due("34: asked() stays", y.asked(), 7);
    }

    private static void digests() {
        EveningFalls empty = new EveningFalls();
        long h = 17;
        for (int i = 0; i < 11 + 7; i++) h = 31 * h;
        for (int i = 0; i < 3 + 6 + 4; i++) h = 31 * h - 1;
        due("40: a new object", empty.digest(), h);
        EveningFalls x = Check.court("k0o21w31", 1);
        x.put(0, 0, 200);
        x.row(5, 2);
        x.lay(5, 1, -7);
        x.fall(0);
        x.keep(1);
        long[] told = {1, 1, 1, 1, 3, 0, 0, 0, 1, 1, 1, 0, 1, 0, 1, 0, 1, 0, 0, 3, 1, 0, 1, 0, -1, 1, -1,
            -1, -1, -1, -1, -1, 2, 0, -7, 8, 200 - 256, '0', 'o', '2', '1', 'w', '3', '1', -1, -1, -1};
        long g = 17;
        for (long v : told) g = 31 * g + v;
        due("40: of all", x.digest(), g);
        due("40: asked() stays", x.asked(), 0);
    }
}
