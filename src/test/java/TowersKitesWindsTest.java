/** Promises 5 to 10: towers, kites, winds. */
public final class TowersKitesWindsTest {
    private static void towers() {
        KiteWar war = new KiteWar();
        Check.due("tower(-1, 0, 1)", war.tower(-1, 0, 1), KiteWar.NONE);
        Check.due("tower(2, 0, 0)", war.tower(2, 0, 0), KiteWar.NONE);
        Check.due("tower(0, -1, 1)", war.tower(0, -1, 1), KiteWar.NONE);
        Check.due("tower(0, 37, 9)", war.tower(0, 37, 9), KiteWar.NONE);
        Check.due("tower(0, 0, 0)", war.tower(0, 0, 0), KiteWar.BAD);
        Check.due("tower(0, 0, 5)", war.tower(0, 0, 5), KiteWar.BAD);
        Check.due("reason(false)", war.reason(false), KiteWar.NOTHING);
        Check.due("tower(1, 36, 1)", war.tower(1, 36, 1), 0);
        Check.due("tower(0, 0, 4)", war.tower(0, 0, 4), 1);
        Check.due("tower(0, 36, 5)", war.tower(0, 36, 5), KiteWar.BAD);
        Check.refused("tower(0, 36, 2)", war, war.tower(0, 36, 2), 2, 0);
        Check.refused("tower(1, 0, 2)", war, war.tower(1, 0, 2), 2, 1);
        Check.due("tower(0, 1, 2)", war.tower(0, 1, 2), 2);
        Check.due("tower(0, 2, 3)", war.tower(0, 2, 3), 3);
        Check.refused("tower(0, 3, 3)", war, war.tower(0, 3, 3), 1, 3);
        Check.refused("tower(0, 2, 3)", war, war.tower(0, 2, 3), 2, 3);
        Check.due("tower(1, 3, 3)", war.tower(1, 3, 3), 4);
        Check.due("tower(1, 4, 3)", war.tower(1, 4, 3), 5);
        Check.refused("tower(1, 5, 3)", war, war.tower(1, 5, 3), 1, 3);
        Check.due("account(1)", war.account(1), 6);
        int[] sides = {1, 0, 0, 0, 1, 1};
        int[] hexagons = {36, 0, 1, 2, 3, 4};
        int[] reaches = {1, 4, 2, 3, 3, 3};
        for (int tower = 0; tower < 6; tower++) {
            Check.due("the side of the tower " + tower, war.towerOf(tower, 0), sides[tower]);
            Check.due("the hexagon of the tower " + tower, war.towerOf(tower, 1), hexagons[tower]);
            Check.due("the reach of the tower " + tower, war.towerOf(tower, 2), reaches[tower]);
        }
        Check.due("account(17)", war.account(17), 6);
    }

    private static void kites() {
        KiteWar war = new KiteWar();
        Check.due("kite(0, 1)", war.kite(0, 1), KiteWar.NONE);
        war.tower(1, 18, 2);
        war.tower(0, 10, 3);
        Check.due("kite(-1, 0)", war.kite(-1, 0), KiteWar.NONE);
        Check.due("kite(2, 1)", war.kite(2, 1), KiteWar.NONE);
        Check.due("kite(0, 0)", war.kite(0, 0), KiteWar.BAD);
        Check.due("kite(0, 10)", war.kite(0, 10), KiteWar.BAD);
        Check.due("kite(1, 9)", war.kite(1, 9), 0);
        Check.due("kite(0, 1)", war.kite(0, 1), 1);
        Check.due("kite(1, 2)", war.kite(1, 2), 2);
        Check.due("kite(1, 10)", war.kite(1, 10), KiteWar.BAD);
        Check.refused("kite(1, 3)", war, war.kite(1, 3), 1, 2);
        Check.due("account(2)", war.account(2), 3);
        Check.due("account(3)", war.account(3), 3);
        int[] due = {0, 1, 0, KiteWar.NOTHING, 0, 10, 9, 0, 0};
        for (int what = 0; what < due.length; what++) {
            Check.due("kiteOf(0, " + what + ")", war.kiteOf(0, what), due[what]);
        }
        Check.due("kiteOf(1, 0)", war.kiteOf(1, 0), 1);
        Check.due("kiteOf(1, 5)", war.kiteOf(1, 5), 18);
        Check.due("kiteOf(3, 9)", war.kiteOf(3, 9), KiteWar.NONE);
        Check.due("kiteOf(-1, 0)", war.kiteOf(-1, 0), KiteWar.NONE);
        Check.due("kiteOf(0, -1)", war.kiteOf(0, -1), KiteWar.BAD);
        Check.due("kiteOf(0, 9)", war.kiteOf(0, 9), KiteWar.BAD);
        Check.due("towerOf(1, 3)", war.towerOf(1, 3), 2);
        Check.due("towerOf(0, 3)", war.towerOf(0, 3), 1);
        Check.due("towerOf(2, 6)", war.towerOf(2, 6), KiteWar.NONE);
        Check.due("towerOf(-1, 0)", war.towerOf(-1, 0), KiteWar.NONE);
        Check.due("towerOf(0, -1)", war.towerOf(0, -1), KiteWar.BAD);
        Check.due("towerOf(0, 6)", war.towerOf(0, 6), KiteWar.BAD);
    }

    private static void twelveKites() {
        KiteWar war = new KiteWar();
        for (int tower = 0; tower < 6; tower++) {
            war.tower(tower % 2, tower, 1);
            Check.due("kite", war.kite(tower, 3), 2 * tower);
            Check.due("kite", war.kite(tower, 3), 2 * tower + 1);
            Check.refused("kite(" + tower + ", 3)", war, war.kite(tower, 3), 1, 2);
        }
        Check.due("account(2)", war.account(2), 12);
    }

    /** The first kite of the tower flies, the second one rests; then the first one is taken by the other side. */
    private static void numbersOfKites() {
        KiteWar war = new KiteWar();
        int kite = Check.flying(war, 0, 15, 3, 0, 3);
        war.kite(0, 5);
        int[] flying = {0, 0, 1, 0, 3, 18, 3, 0, 0};
        for (int what = 0; what < flying.length; what++) {
            Check.due("kiteOf(0, " + what + ")", war.kiteOf(kite, what), flying[what]);
        }
        Check.due("towerOf(0, 3)", war.towerOf(0, 3), 2);
        Check.due("towerOf(0, 4)", war.towerOf(0, 4), 1);
        war.tower(1, 21, 1);
        war.wind(0, 3);
        Check.due("turn(1)", war.turn(1), 1);
        int[] lost = {0, 0, 3, KiteWar.NOTHING, 0, KiteWar.NOTHING, 0, 1, 0};
        for (int what = 0; what < lost.length; what++) {
            Check.due("kiteOf(0, " + what + ") of a lost one", war.kiteOf(kite, what), lost[what]);
        }
        Check.due("towerOf(0, 3)", war.towerOf(0, 3), 2);
        Check.due("towerOf(0, 4)", war.towerOf(0, 4), 0);
        Check.due("towerOf(1, 5)", war.towerOf(1, 5), 1);
        Check.due("towerOf(0, 5)", war.towerOf(0, 5), 0);
        Check.refused("kite(0, 1)", war, war.kite(0, 1), 1, 2);
    }

    private static void winds() {
        KiteWar war = new KiteWar();
        Check.due("wind(-1, 0)", war.wind(-1, 0), KiteWar.BAD);
        Check.due("wind(6, 0)", war.wind(6, 0), KiteWar.BAD);
        Check.due("wind(0, -1)", war.wind(0, -1), KiteWar.BAD);
        Check.due("wind(0, 4)", war.wind(0, 4), KiteWar.BAD);
        Check.due("windNow(false)", war.windNow(false), KiteWar.NOTHING);
        int[] directions = {5, 0, 3, 1, 4, 2};
        int[] forces = {0, 3, 1, 2, 3, 0};
        for (int wind = 0; wind < 6; wind++) {
            Check.due("wind " + wind, war.wind(directions[wind], forces[wind]), wind + 1);
        }
        Check.due("wind(0, 4)", war.wind(0, 4), KiteWar.BAD);
        Check.refused("wind(0, 0)", war, war.wind(0, 0), 1, 6);
        Check.due("account(8)", war.account(8), 6);
        for (int turn = 0; turn < 14; turn++) {
            Check.due("windNow(false) in the turn " + turn, war.windNow(false), directions[turn % 6]);
            Check.due("windNow(true) in the turn " + turn, war.windNow(true), forces[turn % 6]);
            war.turn(1);
        }
    }

    public static void main(String[] args) {
        towers();
        kites();
        twelveKites();
        numbersOfKites();
        winds();
        Check.end();
    }
}
