/** The edges of reasons: the sentences under "Reasons" and of the promise 25, each by itself. */
public final class ReasonsEdgesTest {
    private static final int NOTHING = KiteWar.NOTHING;

    private static void reasonIs(KiteWar war, int reason, int detail) {
        Check.due("reason(false)", war.reason(false), reason);
        Check.due("reason(true)", war.reason(true), detail);
    }

    private static void inTheirOrder() {
        Check.sentence("Something is refused for the first of the reasons that its method names, "
                + "in the order in which it names them");
        KiteWar war = Check.aboutToCross(4, 4, 4);
        war.tower(0, 0, 1);
        war.tower(0, 1, 1);
        Check.refused("tower(0, 1, 1), 2 before 1", war, war.tower(0, 1, 1), 2, 4);
        Check.refused("seen(1, 0), 6 before 7", war, war.seen(1, 0), 6, 0);
        war.turn(1);
        Check.refused("seen(0, 1), 6 before 7", war, war.seen(0, 1), 6, 1);
        Check.refused("slip(0, 1, 0), 5 before 3", war, war.slip(0, 1, 0), 5, 2);
        Check.refused("slip(0, 2, 0), 5 before 4", war, war.slip(0, 2, 0), 5, 2);
    }

    private static void noRoom() {
        Check.sentence("1, there are 3 towers of the side, 2 kites of the tower, or 6 winds: how many");
        KiteWar war = Check.alone(1, 18, 4, 5);
        war.kite(0, 5);
        Check.refused("kite(0, 5)", war, war.kite(0, 5), 1, 2);
        war.tower(1, 19, 1);
        war.tower(1, 20, 1);
        Check.refused("tower(1, 21, 1)", war, war.tower(1, 21, 1), 1, 3);
        for (int wind = 0; wind < 6; wind++) {
            war.wind(wind, 0);
        }
        Check.refused("wind(0, 0)", war, war.wind(0, 0), 1, 6);
    }

    private static void towerInTheHexagon() {
        Check.sentence("2, there is a tower in the hexagon: the tower");
        KiteWar war = new KiteWar();
        for (int tower = 0; tower < 6; tower++) {
            war.tower(tower % 2, 6 * tower, 1);
        }
        for (int tower = 0; tower < 6; tower++) {
            Check.refused("tower(0, " + 6 * tower + ", 1)", war, war.tower(0, 6 * tower, 1), 2, tower);
            Check.refused("tower(1, " + 6 * tower + ", 1)", war, war.tower(1, 6 * tower, 1), 2, tower);
        }
    }

    private static void howTheKiteIs() {
        Check.sentence("5, the kite drifts or is lost: how it is");
        KiteWar war = Check.aboutToCross(4, 4, 4);
        war.turn(1);
        war.tower(1, 17, 1);
        Check.refused("slip(0, 1, 0)", war, war.slip(0, 1, 0), 5, 2);
        Check.refused("slip(0, 6, 0)", war, war.slip(0, 6, 0), 5, 2);
        war.turn(1);
        Check.refused("slip(0, 1, 0)", war, war.slip(0, 1, 0), 5, 3);
        Check.refused("slip(0, 6, 0)", war, war.slip(0, 6, 0), 5, 3);
        Check.due("slip(1, 1, 0) of one that was taken", war.slip(1, 1, 0), 1);
    }

    private static void ofTheOtherSide() {
        Check.sentence("6, the kite is of the other side: the kite");
        KiteWar war = new KiteWar();
        for (int tower = 0; tower < 6; tower++) {
            war.kite(war.tower(tower % 2, tower, 1), 5);
        }
        for (int kite = 0; kite < 6; kite++) {
            war.slip(kite, 1, 0);
            Check.refused("seen(" + (1 - kite % 2) + ", " + kite + ")", war, war.seen(1 - kite % 2, kite), 6, kite);
            Check.due("seen(" + kite % 2 + ", " + kite + ")", war.seen(kite % 2, kite), 1);
        }
    }

    private static void nothingWasRefused() {
        Check.sentence("Returns the number; NOTHING if nothing was refused.");
        KiteWar war = new KiteWar();
        reasonIs(war, NOTHING, NOTHING);
        war.tower(2, 0, 1);
        war.tower(0, 0, 5);
        war.kite(0, 1);
        war.wind(6, 0);
        war.slip(0, 1, 0);
        war.tear(0);
        war.seen(0, 0);
        war.turn(0);
        war.append(31);
        war.run();
        war.undo();
        war.restore();
        war.tower(0, 18, 4);
        war.kite(0, 5);
        reasonIs(war, NOTHING, NOTHING);
        Check.refused("tear(0)", war, war.tear(0), 7, 0);
    }

    private static void allReasons() {
        Check.sentence("Returns the latest reason, or its detail.");
        KiteWar war = Check.aboutToCross(4, 4, 3);
        war.tower(0, 36, 1);
        war.tower(0, 35, 1);
        Check.refused("tower(0, 34, 1)", war, war.tower(0, 34, 1), 1, 3);
        Check.refused("tower(1, 36, 1)", war, war.tower(1, 36, 1), 2, 3);
        Check.refused("slip(1, 1, 0)", war, war.slip(1, 1, 0), 3, 1);
        war.kite(0, 5);
        Check.refused("kite(0, 5)", war, war.kite(0, 5), 1, 2);
        Check.refused("slip(3, 2, 0)", war, war.slip(3, 2, 0), 4, 3);
        Check.refused("seen(0, 2)", war, war.seen(0, 2), 6, 2);
        Check.refused("tear(3)", war, war.tear(3), 7, 3);
        war.turn(1);
        Check.refused("slip(2, 2, 0)", war, war.slip(2, 2, 0), 5, 2);
        for (int wind = 0; wind < 6; wind++) {
            war.wind(1, 3);
        }
        Check.refused("wind(1, 3)", war, war.wind(1, 3), 1, 6);
        war.turn(3);
        Check.refused("slip(2, 2, 0)", war, war.slip(2, 2, 0), 5, 3);
        Check.refused("run()", war, Check.carryOut(war, "turn 1;turn 1;3 in"), 8, 2);
    }

    private static void theLatestIsKept() {
        Check.sentence("A call that returns a code leaves everything unchanged, except that run empties the text, "
                + "and that reasons are kept.");
        KiteWar war = Check.alone(0, 18, 4, 5);
        war.save();
        Check.refused("tower(1, 18, 1)", war, war.tower(1, 18, 1), 2, 0);
        war.tower(1, 18, 0);
        war.kite(1, 5);
        war.kite(0, 0);
        war.append(0);
        Check.carryOut(war, "turn");
        reasonIs(war, 2, 0);
        war.tower(1, 19, 2);
        war.slip(0, 1, 0);
        war.turn(1);
        Check.carryOut(war, "turn 1");
        reasonIs(war, 2, 0);
        Check.refused("slip(0, 1, 0)", war, war.slip(0, 1, 0), 3, 1);
        reasonIs(war, 3, 1);
    }

    private static void neitherUndoneNorSaved() {
        Check.sentence("The text, the line, the reason and its detail are neither undone nor saved, and stay.");
        KiteWar war = Check.alone(0, 18, 4, 5);
        war.append('t');
        war.tellKite(0);
        Check.refused("tower(1, 18, 1)", war, war.tower(1, 18, 1), 2, 0);
        war.save();
        war.turn(1);
        Check.write(war, "urn ");
        war.tell(0);
        Check.refused("slip(0, 2, 0)", war, war.slip(0, 2, 0), 4, 0);
        Check.due("undo()", war.undo(), 2);
        reasonIs(war, 4, 0);
        Check.due("the line", Check.line(war), ". . . .");
        Check.due("account(16)", war.account(16), 5);
        Check.due("restore()", war.restore(), 1);
        reasonIs(war, 4, 0);
        Check.due("the line", Check.line(war), ". . . .");
        Check.due("account(16)", war.account(16), 5);
        Check.due("append('2')", war.append('2'), 6);
        Check.due("run()", war.run(), 1);
        Check.due("account(0)", war.account(0), 2);
        Check.due("undo()", war.undo(), 0);
        Check.due("account(16) behind a run that is undone", war.account(16), 0);
    }

    public static void main(String[] args) {
        inTheirOrder();
        noRoom();
        towerInTheHexagon();
        howTheKiteIs();
        ofTheOtherSide();
        nothingWasRefused();
        allReasons();
        theLatestIsKept();
        neitherUndoneNorSaved();
        Check.end();
    }
}
