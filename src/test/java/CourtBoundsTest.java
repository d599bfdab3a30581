/** Boundary cases of promises 10 to 14: FAULTS, COURTS, what WAYS tell, who is AWAY. */
public final class CourtBoundsTest extends Bounds {
    private static final String LETTERS = "wrmgpl";

    public static void main(String[] args) {
        promise10Rest();
        promise10People();
        promise10HowManyPeople();
        promise10Ways();
        promise10HowManyWays();
        promise10Ends();
        promise10Blanks();
        promise10AnyByte();
        promise10Refused();
        promise11Courts();
        promise11OneBehindTheOther();
        promise11Anew();
        promise11Refused();
        promise12Facts();
        promise12Bounds();
        promise13Kinds();
        promise13Numbers();
        promise13Refused();
        promise14Days();
        promise14Refused();
        Check.end();
    }

    /** A FAULT, and that court() refuses just then. */
    private static void faultIs(String words, int place) {
        EveningFalls x = new EveningFalls();
        x.text(3, words.length());
        for (int i = 0; i < words.length(); i++) x.put(3, i, words.charAt(i));
        long before = x.digest();
        due("10: fault of '" + words + "'", x.fault(3), place);
        due("10: nothing is changed", x.digest(), before);
        if (place == NONE) {
            Check.holds("11: a court by '" + words + "'", x.court(3) > 0);
            return;
        }
        due("11: court of '" + words + "'", x.court(3), STATE);
        due("11: nothing is changed", x.digest(), before);
        due("11: no finding", x.finding(), 0);
    }

    private static void promise10Rest() {
        for (int rest = 0; rest <= 6; rest++) faultIs("k" + rest + "w00", NONE);
        for (char c : "789/: kw".toCharArray()) faultIs("k" + c + "w00", 1);
        faultIs("k10w00", 2);
        faultIs("k-1w00", 1);
        faultIs("k", 1);
        faultIs("k ", 1);
        faultIs("3w00", 0);
        faultIs("w00", 0);
        faultIs("o20w00", 0);
        faultIs("k0k0w00", 2);
        faultIs("k0 k0w00", 3);
    }

    private static void promise10People() {
        for (int round = 2; round <= 7; round++) {
            for (int turn = 0; turn < round; turn++) faultIs("k0o" + round + turn + "w01", NONE);
            for (int turn = round; turn <= 9; turn++) faultIs("k0o" + round + turn + "w01", 4);
            for (char c : "/: w".toCharArray()) faultIs("k0o" + round + c + "w01", 4);
        }
        for (char c : "0189/: w".toCharArray()) faultIs("k0o" + c + "0w00", 3);
        faultIs("k0o200w00", 5);
        faultIs("k0oo20w00", 3);
        faultIs("k0O20w00", 2);
    }

    private static void promise10HowManyPeople() {
        faultIs("k0w00", NONE);
        faultIs("k0o20w00", NONE);
        faultIs("k0o20o20w00", NONE);
        faultIs("k0o20o20o20w00", NONE);
        faultIs("k0o20o20o20o20w00", 11);
        faultIs("k0o20o20o20 o20w00", 12);
        faultIs("k0o20o20o20o", 11);
        faultIs("k0o20o20o20ox", 11);
        faultIs("k0w00o20", 5);
        faultIs("k0w00 o20w00", 6);
        faultIs("k0o20w00o20", 8);
        faultIs("k0w00w00w00w00w00w00w00o20", 23);
        // PEOPLE that there are: the greatest set, and the next number above it.
        String people = "";
        for (int many = 0; many <= 3; many++) {
            for (int set = 0; set <= 9; set++) {
                String words = "k0" + people + "w0" + set;
                faultIs(words, set < 1 << many ? NONE : words.length() - 1);
                faultIs("k0" + people + "p0" + set, set < 1 << many ? NONE : words.length() - 1);
            }
            people += "o72";
        }
    }

    private static void promise10Ways() {
        for (char letter : LETTERS.toCharArray()) {
            for (int trouble = 0; trouble <= 9; trouble++) faultIs("k0" + letter + trouble + "0", NONE);
            for (char c : "/: w".toCharArray()) faultIs("k0" + letter + c + "0", 3);
            for (char c : "/: w1".toCharArray()) faultIs("k0" + letter + "0" + c, 4);
            faultIs("k0" + Character.toUpperCase(letter) + "00", 2);
            faultIs("k0" + letter + "000", 5);
            faultIs("k0" + letter + "00x", 5);
        }
    }

    private static void promise10HowManyWays() {
        StringBuilder words = new StringBuilder("k6");
        for (int many = 1; many <= 7; many++) {
            words.append(LETTERS.charAt(many % 6)).append(many).append(0);
            faultIs(words.toString(), NONE);
        }
        faultIs(words + "w00", 23);
        faultIs(words + "  w00", 25);
        faultIs(words + "w", 23);
        faultIs(words + "7", 23);
        faultIs(words + "k0", 23);
        faultIs(words + "   ", NONE);
        faultIs("k0", 2);
        faultIs("k0o20", 5);
        faultIs("k0o20o20o20", 11);
    }

    /** Each start of a good TEXT ends too early, but for those that end behind a WAY. */
    private static void promise10Ends() {
        String words = " k1 o21  o32w30r11 m92l03 ";
        for (int n = 0; n <= words.length(); n++) {
            boolean good = n == 15 || n == 18 || n == 19 || n == 22 || n == 25 || n == 26;
            faultIs(words.substring(0, n), good ? NONE : n);
        }
        for (int n = 0; n <= 60; n++) faultIs(" ".repeat(n), n);
        String longest = "k6 o76  o65 o54  w97 r97 m97 g97  p97 l97 w97";
        faultIs(longest + " ".repeat(60 - longest.length()), NONE);
        faultIs(" ".repeat(60 - longest.length()) + longest, NONE);
        faultIs(" ".repeat(55) + "k0w00", NONE);
        faultIs(" ".repeat(56) + "k0w0", 60);
        faultIs(" ".repeat(59) + "k", 60);
        faultIs("k0w00" + " ".repeat(54) + "w", 60);
        faultIs("k0w00" + " ".repeat(54) + "x", 59);
        faultIs("k0" + " ".repeat(58), 60);
        faultIs("k0o20" + " ".repeat(55), 60);
    }

    private static void promise10Blanks() {
        faultIs("k0w00", NONE);
        faultIs("  k0  w00  ", NONE);
        faultIs("k0o20 w00", NONE);
        faultIs("k0 o20w00", NONE);
        faultIs("k 0w00", 1);
        faultIs("k0o 20w00", 3);
        faultIs("k0o2 0w00", 4);
        faultIs("k0w 00", 3);
        faultIs("k0w0 0", 4);
        for (char c : "\t\n\r,;".toCharArray()) {
            faultIs(c + "k0w00", 0);
            faultIs("k0" + c + "w00", 2);
            faultIs("k0w00" + c, 5);
        }
        faultIs("k0w00" + (char) 0, 5);
        faultIs("k0w00" + (char) 160, 5);
    }

    private static void promise10AnyByte() {
        for (int b = 0; b < 256; b++) {
            char c = (char) b;
            boolean blank = b == 32;
            faultIs(c + "w00", blank ? 1 : b == 'k' ? 1 : 0);
            faultIs("k" + c + "w00", b >= '0' && b <= '6' ? NONE : 1);
            faultIs("k0" + c + "00", LETTERS.indexOf(c) >= 0 ? NONE : blank || b == 'o' ? 3 : 2);
            faultIs("k0w" + c + "0", b >= '0' && b <= '9' ? NONE : 3);
            faultIs("k0w0" + c, b == '0' ? NONE : 4);
        }
    }

    private static void promise10Refused() {
        for (int t : NO_TEXT) {
            refused("10: fault(" + t + ")", Bounds::busy, y -> y.fault(t), BAD);
            refused("10: fault(" + t + "), bare", Bounds::bare, y -> y.fault(t), BAD);
        }
        found("10: fault(1)", Bounds::busy, y -> y.fault(1), NOTHING);
        // What is told is no refusal, and changes nothing either.
        refused("10: fault(0)", Bounds::busy, y -> y.fault(0), NONE);
        refused("10: fault(2)", Bounds::busy, y -> y.fault(2), 0);
        refused("10: fault(3)", Bounds::busy, y -> y.fault(3), 59);
    }

    private static void promise11Courts() {
        EveningFalls x = busy();
        x.text(1, 5);
        String least = "k0w00";
        for (int i = 0; i < 5; i++) x.put(1, i, least.charAt(i));
        due("11: the least one", x.court(1), 1);
        due("11: WAYS", x.count(0), 1);
        due("11: PEOPLE", x.count(1), 0);
        due("11: no RIOTS", x.count(6), 0);
        due("11: no MIMED ones", x.count(7), 0);
        due("11: nobody AWAY", x.away(0), 0);
        due("11: WAY 1 is no more", x.way(1, 0), BAD);
        due("11: WAY 6 is no more", x.fall(6), BAD);
        due("11: REST 0", x.fall(0), 0);
        due("11: REST 0", x.fall(0), 0);
        due("11: the greatest one", x.court(0), 7);
        due("11: WAYS", x.count(0), 7);
        due("11: PEOPLE", x.count(1), 3);
        due("11: AWAY on DAY 12", x.away(12), 5);
        due("11: REST 3", x.mark(2, 2), 2);
    }

    /** Nothing of a TEXT that was read before, by court() or by fault(), is left. */
    private static void promise11OneBehindTheOther() {
        String[] words = {"k6o20o30r10w21", "k0w00", "k2o71p91p91l91m91", "k3o20o31o75 w41r32m71g20p57l94r60"};
        int[] ways = {2, 1, 4, 7};
        int[] people = {2, 0, 1, 3};
        int[] riots = {1, 0, 2, 3};
        int[] mimed = {0, 0, 2, 2};
        EveningFalls x = new EveningFalls();
        for (int t = 0; t < 4; t++) Check.write(x, t, words[t]);
        for (int first = 0; first < 4; first++) {
            for (int second = 0; second < 4; second++) {
                String what = "11: " + second + " behind " + first;
                due(what, x.court(first), ways[first]);
                due(what, x.fault(first), NONE);
                due(what + ", WAYS stay", x.count(0), ways[first]);
                due(what, x.court(second), ways[second]);
                due(what + ", WAYS", x.count(0), ways[second]);
                due(what + ", PEOPLE", x.count(1), people[second]);
                due(what + ", RIOTS", x.count(6), riots[second]);
                due(what + ", MIMED ones", x.count(7), mimed[second]);
                due(what + ", the next WAY", x.way(ways[second], 0), BAD);
            }
        }
    }

    private static void promise11Anew() {
        EveningFalls x = busy();
        due("11: anew", x.court(0), 7);
        due("11: DAY 0", x.count(2), 0);
        due("11: no DEEDS", x.count(3), 0);
        due("11: no TROUBLE", x.count(4), 0);
        due("11: no nights", x.count(5), 0);
        due("11: kept COURTS go", x.count(10), 0);
        for (int k = 0; k <= 2; k++) {
            due("11: on(" + k + ")", x.on(k), FINDING);
            due("11: NOTHING", x.finding(), NOTHING);
        }
        due("11: asked() stays", x.asked(), 77);
        due("11: upper() stays", x.upper(), 27);
        due("11: lower() stays", x.lower(), 8);
        due("11: findings(5) stays", x.findings(5), 5);
        due("11: ROWS stay", x.count(8), 3);
        due("11: TEXTS stay", x.count(9), 3);
        due("11: can()", x.can(), 114);
        for (int w = 0; w < 7; w++) {
            asks(x, "11: never done", x.way(w, 3), NONE);
            asks(x, "11: how often", x.way(w, 4), 0);
        }
        due("11: undo(1)", x.undo(1), BAD);
        // The TEXT is only read: what becomes of it later does not matter.
        x.text(0, 0);
        due("11: the COURT stays", x.count(0), 7);
        due("11: the COURT stays", x.can(), 114);
    }

    private static void promise11Refused() {
        for (int t : NO_TEXT) {
            refused("11: court(" + t + ")", Bounds::busy, y -> y.court(t), BAD);
            refused("11: court(" + t + "), bare", Bounds::bare, y -> y.court(t), BAD);
        }
        found("11: NOTHING", Bounds::busy, y -> y.court(1), NOTHING);
        refused("11: STATE, empty", Bounds::busy, y -> y.court(2), STATE);
        refused("11: STATE", Bounds::busy, y -> y.court(3), STATE);
        refused("11: STATE, full", CourtBoundsTest::fullAndSpoilt, y -> y.court(0), STATE);
        // All of the TEXT was read but its last byte.
        refused("11: STATE at the end", CourtBoundsTest::spoiltAtTheEnd, y -> y.court(0), STATE);
    }

    private static EveningFalls fullAndSpoilt() {
        EveningFalls x = full();
        x.put(0, 13, '2');
        return x;
    }

    private static EveningFalls spoiltAtTheEnd() {
        EveningFalls x = busy();
        x.put(0, 32, 'x');
        return x;
    }

    private static void promise12Facts() {
        EveningFalls x = Check.court("k0o20o20o21w97r07m17g97p97l97p00", 7);
        int[] kinds = {0, 1, 2, 3, 4, 5, 4};
        int[] troubles = {9, 0, 0, 9, 18, 4, 0};
        int[] needs = {7, 7, 7, 7, 0, 7, 0};
        int[] cans = {0, 0, 0, 0, 1, 0, 1};
        for (int w = 0; w < 7; w++) {
            asks(x, "12: KIND of " + w, x.way(w, 0), kinds[w]);
            asks(x, "12: TROUBLE of " + w, x.way(w, 1), troubles[w]);
            asks(x, "12: NEEDS of " + w, x.way(w, 2), needs[w]);
            asks(x, "12: never", x.way(w, 3), NONE);
            asks(x, "12: how often", x.way(w, 4), 0);
            asks(x, "12: now", x.way(w, 5), cans[w]);
        }
        x.fall(4);
        asks(x, "12: done last on DAY 0", x.way(4, 3), 0);
        asks(x, "12: once", x.way(4, 4), 1);
        asks(x, "12: not now", x.way(4, 5), 0);
        asks(x, "12: another one, never", x.way(6, 3), NONE);
        EveningFalls y = Check.court("k0w00", 1);
        for (int i = 0; i < 40; i++) y.fall(0);
        asks(y, "12: done last on DAY 39", y.way(0, 3), 39);
        asks(y, "12: 40 times", y.way(0, 4), 40);
        asks(y, "12: it could be done, but for FULL", y.way(0, 5), 1);
    }

    private static void promise12Bounds() {
        for (int w : new int[] {-1, 7, 8, LOW, HIGH}) {
            for (int what : new int[] {0, 5}) {
                refused("12: way(" + w + ", " + what + ")", Bounds::busy, y -> y.way(w, what), BAD);
            }
        }
        for (int what : new int[] {-1, 6, LOW, HIGH}) {
            for (int w : new int[] {0, 6}) {
                refused("12: way(" + w + ", " + what + ")", Bounds::busy, y -> y.way(w, what), BAD);
            }
        }
        Made one = () -> Check.court("k0w00", 1);
        refused("12: of one WAY", one, y -> y.way(1, 0), BAD);
        refused("12: of one WAY", one, y -> y.way(-1, 0), BAD);
        refused("12: of no WAYS", Bounds::bare, y -> y.way(0, 0), BAD);
    }

    /** Which KIND IS of which: of its own, a PROXY also a RIOT, a LANDSLIDE also MIMED. */
    private static void promise13Kinds() {
        int[][] due = {
            {UNLIKE, UNLIKE, UNLIKE, UNLIKE, UNLIKE},
            {0, UNLIKE, UNLIKE, UNLIKE, UNLIKE},
            {UNLIKE, 0, UNLIKE, UNLIKE, UNLIKE},
            {UNLIKE, UNLIKE, 0, UNLIKE, UNLIKE},
            {0, UNLIKE, UNLIKE, 0, UNLIKE},
            {UNLIKE, 0, UNLIKE, UNLIKE, 0},
        };
        for (int own = 0; own < 6; own++) {
            String words = "k0" + LETTERS.charAt(own) + "00";
            for (int kind = 1; kind <= 5; kind++) {
                int asked = kind;
                String what = "13: mark(0, " + kind + ") of " + words;
                Made made = () -> Check.court(words, 1);
                if (due[own][kind - 1] == UNLIKE) found(what, made, y -> y.mark(0, asked), UNLIKE);
                // By "k0" a MIMED one may come again after 1 DAY; all else tells 0 here.
                else refused(what, made, y -> y.mark(0, asked), kind == 2 ? 1 : 0);
            }
        }
    }

    private static void promise13Numbers() {
        EveningFalls x = Check.court("k0r00r00r00p00p00p00r00", 7);
        for (int w = 0; w < 7; w++) due("13: all others are RIOTS", x.mark(w, 1), 6);
        due("13: one RIOT alone", Check.court("k0w00p00m00", 3).mark(1, 1), 0);
        int[] again = {1, 1, 2, 2, 3, 3, 4};
        for (int rest = 0; rest <= 6; rest++) {
            EveningFalls y = Check.court("k" + rest + "m00l00", 2);
            due("13: MIMED, REST " + rest, y.mark(0, 2), again[rest]);
            due("13: LANDSLIDE, REST " + rest, y.mark(1, 2), again[rest]);
        }
        EveningFalls p = Check.court("k0o20o20o20p00p01p02p04p03p06p07", 7);
        int[] people = {0, 1, 1, 1, 2, 2, 3};
        for (int w = 0; w < 7; w++) due("13: PROXY " + w, p.mark(w, 4), people[w]);
        EveningFalls l = Check.court("k0l00g00w00", 3);
        int[] days = {0, 4, 3, 2, 1};
        due("13: REGENT on DAY 0", l.mark(1, 3), 0);
        for (int day = 0; day < 40; day++) {
            due("13: LANDSLIDE on DAY " + day, l.mark(0, 5), days[day % 5]);
            l.night();
        }
        due("13: LANDSLIDE on DAY 40", l.mark(0, 5), 0);
        due("13: REGENT behind a night", l.mark(1, 3), 0);
        l.undo(39);
        l.fall(2);
        due("13: REGENT behind a WAY", l.mark(1, 3), 1);
        l.undo(39);
        due("13: REGENT, the WAY undone", l.mark(1, 3), 0);
        l.undo(1);
        l.fall(2);
        l.fall(1);
        due("13: REGENT behind itself", l.mark(1, 3), 1);
    }

    private static void promise13Refused() {
        for (int w : new int[] {-1, 7, LOW, HIGH}) {
            for (int kind = 1; kind <= 5; kind++) {
                int asked = kind;
                refused("13: mark(" + w + ", " + kind + ")", Bounds::busy, y -> y.mark(w, asked), BAD);
            }
        }
        for (int kind : new int[] {0, -1, 6, LOW, HIGH}) {
            for (int w : new int[] {0, 1, 6}) {
                refused("13: mark(" + w + ", " + kind + ")", Bounds::busy, y -> y.mark(w, kind), BAD);
            }
        }
        refused("13: of no WAYS", Bounds::bare, y -> y.mark(0, 1), BAD);
        found("13: UNLIKE", Bounds::busy, y -> y.mark(3, 4), UNLIKE);
    }

    private static void promise14Days() {
        for (int round = 2; round <= 7; round++) {
            for (int turn = 0; turn < round; turn++) {
                EveningFalls x = Check.court("k0o" + round + turn + "w00", 1);
                for (int day = 0; day <= 20; day++) {
                    due("14: o" + round + turn + ", DAY " + day, x.away(day), day % round == turn ? 1 : 0);
                }
                for (int day = 985; day <= 999; day++) {
                    due("14: o" + round + turn + ", DAY " + day, x.away(day), day % round == turn ? 1 : 0);
                }
            }
        }
        EveningFalls all = Check.court("k0o20o30o70w00", 1);
        due("14: all on DAY 0", all.away(0), 7);
        due("14: all on DAY 42", all.away(42), 7);
        due("14: nobody on DAY 1", all.away(1), 0);
        due("14: the third one alone", all.away(7), 4);
        due("14: the second one alone", all.away(999), 2);
        due("14: no PEOPLE", Check.court("k0w00", 1).away(0), 0);
        all.night();
        due("14: it is no matter which DAY is now", all.away(0), 7);
    }

    private static void promise14Refused() {
        for (int day : new int[] {-1, 1000, LOW, HIGH}) {
            refused("14: away(" + day + ")", Bounds::busy, y -> y.away(day), BAD);
            refused("14: away(" + day + "), bare", Bounds::bare, y -> y.away(day), BAD);
        }
        refused("14: away(0), bare", Bounds::bare, y -> y.away(0), 0);
        refused("14: away(999), bare", Bounds::bare, y -> y.away(999), 0);
    }
}
