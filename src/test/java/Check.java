/** Counts answers that are not as due; a test ends by end(). */
final class Check {
    private static int wrong = 0;
    private static int looked = 0;

    private Check() {
    }

    static void due(String what, long got, long want) {
        looked++;
        if (got != want) {
            wrong++;
            if (wrong <= 50) System.out.println(what + " answered " + got + ", due is " + want);
        }
    }

    static void holds(String what, boolean good) {
        due(what, good ? 1 : 0, 1);
    }

    static boolean anyWrong() {
        return wrong > 0;
    }

    static void end() {
        System.out.println(looked + " answers looked at, " + wrong + " not as due");
        if (wrong != 0) System.exit(1);
    }

    /** Writes a TEXT by text() and put(). */
    static void write(EveningFalls x, int t, String words) {
        due("text(" + t + ", " + words.length() + ")", x.text(t, words.length()), words.length());
        for (int i = 0; i < words.length(); i++) {
            due("put(" + t + ", " + i + ", ..)", x.put(t, i, words.charAt(i)), 1032);
        }
    }

    /** A new object with a COURT. */
    static EveningFalls court(String words, int ways) {
        EveningFalls x = new EveningFalls();
        write(x, 0, words);
        due("court of '" + words + "'", x.court(0), ways);
        return x;
    }
}
