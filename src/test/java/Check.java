/** What all tests share: telling wrong answers, and calls that go by whole texts. */
final class Check {
    private static int wrong = 0;
    private static String sentence = "";

    private Check() {
    }

    /** Names the sentence of the document that the following answers are about. */
    static void sentence(String words) {
        sentence = words;
    }

    private static void tellWrong(String answer) {
        wrong++;
        System.out.println(answer + (sentence.isEmpty() ? "" : ", by: " + sentence));
    }

    static void due(String call, double got, double want) {
        if (got != want) {
            tellWrong(call + " answered " + got + ", due is " + want);
        }
    }

    static void due(String call, String got, String want) {
        if (!got.equals(want)) {
            tellWrong(call + " answered \"" + got + "\", due is \"" + want + "\"");
        }
    }

    static void end() {
        if (wrong > 0) {
            System.out.println(wrong + " answers are wrong");
            System.exit(1);
        }
    }

    static void write(KiteWar war, String text) {
        for (int index = 0; index < text.length(); index++) {
            war.append(text.charAt(index));
        }
    }

    static int carryOut(KiteWar war, String text) {
        write(war, text);
        return war.run();
    }

    static String line(KiteWar war) {
        StringBuilder line = new StringBuilder();
        for (int index = 0; war.character(index) != KiteWar.NONE; index++) {
            line.append((char) war.character(index));
        }
        return line.toString();
    }

    static String row(KiteWar war, int row) {
        int length = war.tell(row);
        String line = line(war);
        due("the length of the row " + row, length, line.length());
        return line;
    }

    static String kiteLine(KiteWar war, int kite) {
        int length = war.tellKite(kite);
        String line = line(war);
        due("the length of the line of the kite " + kite, length, line.length());
        return line;
    }

    static void numbersOfKite(KiteWar war, int kite, int... due) {
        for (int what = 0; what < due.length; what++) {
            due("kiteOf(" + kite + ", " + what + ")", war.kiteOf(kite, what), due[what]);
        }
    }

    static void numbersOfTower(KiteWar war, int tower, int... due) {
        for (int what = 0; what < due.length; what++) {
            due("towerOf(" + tower + ", " + what + ")", war.towerOf(tower, what), due[what]);
        }
    }

    static void accounts(KiteWar war, int... due) {
        for (int what = 0; what < due.length; what++) {
            due("account(" + what + ")", war.account(what), due[what]);
        }
    }

    static void refused(String call, KiteWar war, int got, int reason, int detail) {
        due(call, got, KiteWar.REFUSED);
        due("the reason of " + call, war.reason(false), reason);
        due("the detail of " + call, war.reason(true), detail);
    }

    /** A kite at rest with a tower of its own. */
    static KiteWar alone(int side, int hexagon, int reach, int strength) {
        KiteWar war = new KiteWar();
        war.kite(war.tower(side, hexagon, reach), strength);
        return war;
    }

    /** A slip that is carried out at once. */
    static void order(KiteWar war, int kite, int move, int direction) {
        war.slip(kite, move, direction);
        war.turn(1);
    }

    /** A tower with a kite that flies in a direction, at the cost of as many turns as the line is long. */
    static int flying(KiteWar war, int side, int hexagon, int strength, int direction, int length) {
        int kite = war.kite(war.tower(side, hexagon, 4), strength);
        war.slip(kite, 1, direction);
        war.turn(1);
        for (int more = 1; more < length; more++) {
            war.slip(kite, 2, 0);
            war.turn(1);
        }
        return kite;
    }

    /**
     * Three kites of the given strengths, the first of the side 0, the others of the side 1, whose
     * lines are 1 long, and meet in the hexagon 17 in the next turn by the slips that are written.
     */
    static KiteWar aboutToCross(int first, int second, int third) {
        KiteWar war = new KiteWar();
        war.kite(war.tower(0, 15, 4), first);
        war.kite(war.tower(1, 4, 4), second);
        war.kite(war.tower(1, 28, 4), third);
        war.slip(0, 1, 0);
        war.slip(1, 1, 5);
        war.slip(2, 1, 1);
        war.turn(1);
        war.slip(0, 2, 0);
        war.slip(1, 2, 0);
        war.slip(2, 2, 0);
        return war;
    }
}
