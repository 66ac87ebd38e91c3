/** Promises 15 to 19: what there is, and would be. */
public final class ForecastTest {
    /** A row is told between the two, so that neither lives on what the other one has found. */
    private static void pairs(KiteWar war, int due) {
        Check.due("crossings()", war.crossings(), due);
        war.tell(3);
        Check.due("crossingsAgain()", war.crossingsAgain(), due);
        war.tell(3);
    }

    private static void crossing() {
        KiteWar war = Check.aboutToCross(4, 4, 4);
        pairs(war, 2);
        Check.due("account(7)", war.account(7), 3);
        Check.due("account(4)", war.account(4), 3);
        war.tear(1);
        pairs(war, 1);
        war.slip(1, 2, 0);
        war.tear(0);
        pairs(war, 0);
        war.slip(0, 3, 0);
        pairs(war, 0);
        pairs(new KiteWar(), 0);
    }

    /** Lines that stay crossed over several hexagons count as one pair, and winds count for nothing. */
    private static void manyHexagons() {
        KiteWar war = new KiteWar();
        war.kite(war.tower(0, 15, 4), 9);
        war.kite(war.tower(1, 21, 4), 1);
        war.kite(war.tower(1, 19, 4), 1);
        war.slip(0, 1, 0);
        war.slip(1, 1, 3);
        pairs(war, 0);
        war.turn(1);
        war.slip(0, 2, 0);
        war.slip(1, 2, 0);
        war.turn(1);
        war.slip(0, 2, 0);
        pairs(war, 0);
        war.turn(1);
        war.slip(0, 2, 0);
        war.slip(1, 2, 0);
        war.slip(2, 1, 3);
        war.wind(0, 3);
        pairs(war, 2);
        war.slip(1, 4, 0);
        pairs(war, 1);
        war.slip(1, 6, 0);
        pairs(war, 1);
    }

    /** Two lines turn into each other, over two hexagons, which is still one pair. */
    private static void onePairInManyHexagons() {
        KiteWar war = new KiteWar();
        Check.flying(war, 0, 16, 5, 5, 3);
        Check.flying(war, 1, 20, 5, 2, 2);
        war.slip(0, 4, 0);
        pairs(war, 0);
        war.slip(1, 4, 0);
        pairs(war, 1);
        Check.due("turn(1)", war.turn(1), 2);
        Check.due("kiteOf(0, 8)", war.kiteOf(0, 8), 1);
        Check.due("kiteOf(1, 5)", war.kiteOf(1, 5), 18);
    }

    /** What a slip can't do it does not do in the forecast, either. */
    private static void notDone() {
        KiteWar war = new KiteWar();
        war.kite(war.tower(0, 0, 1), 5);
        war.kite(war.tower(1, 2, 1), 6);
        war.slip(0, 1, 2);
        war.slip(1, 1, 3);
        pairs(war, 0);
        war.slip(0, 1, 0);
        pairs(war, 1);
        war.tear(1);
        war.turn(1);
        war.slip(0, 2, 0);
        war.slip(1, 1, 3);
        pairs(war, 1);
        Check.due("turn(1)", war.turn(1), 1);
        Check.due("account(15)", war.account(15), 1);
        pairs(war, 0);
    }

    private static void drifting() {
        KiteWar war = Check.aboutToCross(4, 4, 4);
        Check.due("driftsTo(3, 10)", war.driftsTo(3, 10), KiteWar.NONE);
        Check.due("driftsTo(-1, 0)", war.driftsTo(-1, 0), KiteWar.NONE);
        Check.due("driftsTo(0, -1)", war.driftsTo(0, -1), KiteWar.BAD);
        Check.due("driftsTo(0, 10)", war.driftsTo(0, 10), KiteWar.BAD);
        Check.due("driftsTo(0, 1)", war.driftsTo(0, 1), KiteWar.NOTHING);
        war.turn(1);
        Check.due("driftsTo(0, 0)", war.driftsTo(0, 0), 17);
        Check.due("driftsTo(0, 9)", war.driftsTo(0, 9), 17);
        war.wind(0, 1);
        war.wind(3, 2);
        war.wind(5, 1);
        int[] due = {17, 24, 25, 23, 29, 30, 28, 33, 34, KiteWar.NOTHING};
        for (int turns = 0; turns < due.length; turns++) {
            Check.due("driftsTo(0, " + turns + ")", war.driftsTo(0, turns), due[turns]);
        }
        war.turn(1);
        Check.due("driftsTo(0, 0)", war.driftsTo(0, 0), 24);
        war.wind(1, 3);
        war.wind(4, 3);
        Check.due("driftsTo(0, 1)", war.driftsTo(0, 1), 7);
        Check.due("driftsTo(0, 2)", war.driftsTo(0, 2), 24);
    }

    /** A tower that would take the kite on the way counts for nothing, nor does the edge let a kite in again. */
    private static void driftingOverTowers() {
        KiteWar war = Check.aboutToCross(4, 4, 4);
        war.turn(1);
        war.wind(3, 1);
        Check.due("driftsTo(0, 2)", war.driftsTo(0, 2), 15);
        Check.due("driftsTo(0, 3)", war.driftsTo(0, 3), KiteWar.NOTHING);
        KiteWar back = Check.aboutToCross(4, 4, 4);
        back.turn(1);
        back.wind(3, 3);
        back.wind(0, 3);
        Check.due("driftsTo(0, 0)", back.driftsTo(0, 0), 17);
        Check.due("driftsTo(0, 1)", back.driftsTo(0, 1), KiteWar.NOTHING);
        Check.due("driftsTo(0, 2)", back.driftsTo(0, 2), KiteWar.NOTHING);
        back.turn(1);
        Check.due("driftsTo(0, 0) of a lost one", back.driftsTo(0, 0), KiteWar.NOTHING);
    }

    private static void directions() {
        KiteWar war = new KiteWar();
        Check.due("bestDirection(0)", war.bestDirection(0), KiteWar.NONE);
        war.tower(0, 18, 1);
        war.tower(0, 0, 4);
        war.tower(1, 36, 4);
        war.tower(1, 7, 2);
        Check.due("bestDirection(-1)", war.bestDirection(-1), KiteWar.NONE);
        Check.due("bestDirection(4)", war.bestDirection(4), KiteWar.NONE);
        Check.due("bestDirection(0)", war.bestDirection(0), 0);
        Check.due("bestDirection(1)", war.bestDirection(1), 5);
        Check.due("bestDirection(2)", war.bestDirection(2), 2);
        Check.due("bestDirection(3)", war.bestDirection(3), 3);
    }

    /** The lines that the other side has count, not those that its slips would give it. */
    private static void fewestLines() {
        KiteWar war = new KiteWar();
        war.tower(0, 18, 2);
        war.tower(1, 21, 4);
        war.tower(1, 14, 4);
        war.tower(0, 27, 4);
        war.kite(1, 5);
        war.kite(2, 5);
        war.kite(3, 5);
        Check.due("bestDirection(0)", war.bestDirection(0), 0);
        war.slip(0, 1, 3);
        war.turn(1);
        Check.due("bestDirection(0)", war.bestDirection(0), 1);
        Check.due("bestDirection(3)", war.bestDirection(3), 3);
        war.slip(1, 1, 3);
        war.turn(1);
        Check.due("bestDirection(0)", war.bestDirection(0), 1);
        war.slip(1, 2, 0);
        war.turn(1);
        Check.due("bestDirection(0)", war.bestDirection(0), 2);
        war.slip(0, 6, 0);
        Check.due("bestDirection(0)", war.bestDirection(0), 2);
        war.turn(1);
        Check.due("bestDirection(0)", war.bestDirection(0), 0);
    }

    private static void nearestTowers() {
        KiteWar war = new KiteWar();
        Check.due("nearest(0, 0)", war.nearest(0, 0), KiteWar.NOTHING);
        Check.due("nearest(2, 0)", war.nearest(2, 0), KiteWar.NONE);
        Check.due("nearest(-1, 0)", war.nearest(-1, 0), KiteWar.NONE);
        Check.due("nearest(0, 37)", war.nearest(0, 37), KiteWar.NONE);
        Check.due("nearest(0, -1)", war.nearest(0, -1), KiteWar.NONE);
        war.tower(1, 0, 1);
        Check.due("nearest(0, 0)", war.nearest(0, 0), KiteWar.NOTHING);
        Check.due("nearest(1, 36)", war.nearest(1, 36), 0);
        war.tower(0, 36, 1);
        war.tower(0, 15, 1);
        war.tower(0, 21, 1);
        Check.due("nearest(0, 18)", war.nearest(0, 18), 1);
        Check.due("nearest(0, 17)", war.nearest(0, 17), 2);
        Check.due("nearest(0, 19)", war.nearest(0, 19), 3);
        Check.due("nearest(0, 32)", war.nearest(0, 32), 1);
        Check.due("nearest(0, 0)", war.nearest(0, 0), 2);
        Check.due("nearest(1, 36)", war.nearest(1, 36), 0);
    }

    public static void main(String[] args) {
        crossing();
        manyHexagons();
        onePairInManyHexagons();
        notDone();
        drifting();
        driftingOverTowers();
        directions();
        fewestLines();
        nearestTowers();
        Check.end();
    }
}
