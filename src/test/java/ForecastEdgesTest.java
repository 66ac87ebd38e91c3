/** The edges of what there is and would be: the sentences of the promises 15 to 19, each by itself. */
public final class ForecastEdgesTest {
    private static final int MIN = Integer.MIN_VALUE;
    private static final int MAX = Integer.MAX_VALUE;
    private static final int NOTHING = KiteWar.NOTHING;

    /** A row is told between the two, so that neither lives on what the other one has found. */
    private static void pairs(KiteWar war, int due) {
        Check.due("crossings()", war.crossings(), due);
        war.tell(3);
        Check.due("crossingsAgain()", war.crossingsAgain(), due);
        war.tell(3);
        Check.due("crossingsAgain() once more", war.crossingsAgain(), due);
    }

    // ---- crossings

    private static void noLines() {
        Check.sentence("Returns how many pairs of lines of different sides would cover a hexagon together");
        pairs(new KiteWar(), 0);
        KiteWar war = Check.alone(0, 18, 4, 5);
        war.kite(war.tower(1, 19, 4), 5);
        pairs(war, 0);
        war.slip(0, 1, 1);
        pairs(war, 0);
        war.slip(1, 1, 2);
        pairs(war, 1);
    }

    private static void bySlips() {
        Check.sentence("if the slips that are written were carried out now");
        KiteWar war = Check.aboutToCross(4, 4, 4);
        pairs(war, 2);
        war.slip(0, 3, 0);
        pairs(war, 0);
        war.slip(0, 4, 0);
        pairs(war, 0);
        war.slip(0, 6, 0);
        pairs(war, 0);
        war.slip(0, 2, 0);
        pairs(war, 2);
        war.tear(0);
        pairs(war, 0);
        war.slip(0, 2, 0);
        war.tear(1);
        pairs(war, 1);
        war.tear(2);
        pairs(war, 0);
    }

    /** Each move of the kite 0 brings its line to the one of the kite 1, or away from it. */
    private static void byEachMove() {
        Check.sentence("if the slips that are written were carried out now");
        int[] homes = {11, 10, 4, 28, 10};
        int[] directions = {4, 4, 4, 2, 4};
        int[] due = {1, 0, 1, 1, 0};
        for (int move = 2; move <= 6; move++) {
            KiteWar war = new KiteWar();
            Check.flying(war, 0, 15, 5, 0, 1);
            war.kite(war.tower(1, homes[move - 2], 4), 5);
            war.slip(1, 1, directions[move - 2]);
            pairs(war, homes[move - 2] == 10 ? 1 : 0);
            war.slip(0, move, 0);
            pairs(war, due[move - 2]);
            Check.due("turn(1)", war.turn(1), 2 * due[move - 2]);
        }
    }

    private static void nothingElse() {
        Check.sentence("if the slips that are written were carried out now, and nothing else");
        KiteWar war = Check.aboutToCross(4, 4, 4);
        war.wind(3, 3);
        pairs(war, 2);
        Check.accounts(war, 1, 3, 3, 0, 3, 0, 0, 3, 1, 0, 0, 0, 0, 0, 0, 0, 0, 8);
        Check.due("the kite 0", Check.kiteLine(war, 0), "k0 flies 0x1 s4");
        Check.due("seen(0, 0)", war.seen(0, 0), 2);
        KiteWar strained = Check.aboutToCross(1, 1, 1);
        strained.wind(0, 3);
        pairs(strained, 2);
        Check.due("turn(1)", strained.turn(1), 1);
    }

    private static void slipsThatCannotBeDone() {
        Check.sentence("if the slips that are written were carried out now");
        KiteWar war = Check.alone(0, 0, 1, 5);
        war.kite(war.tower(1, 2, 1), 6);
        war.slip(0, 1, 2);
        war.slip(1, 1, 3);
        pairs(war, 0);
        war.slip(0, 1, 0);
        war.tear(1);
        war.turn(1);
        war.slip(0, 2, 0);
        war.slip(1, 1, 3);
        pairs(war, 1);
        Check.due("account(15)", war.account(15), 0);
    }

    private static void towersAndTips() {
        Check.sentence("Returns how many pairs of lines of different sides would cover a hexagon together");
        KiteWar war = Check.alone(0, 16, 4, 5);
        war.kite(war.tower(1, 20, 4), 5);
        war.slip(0, 1, 0);
        war.slip(1, 1, 3);
        pairs(war, 0);
        war.turn(1);
        war.slip(0, 2, 0);
        pairs(war, 0);
        war.slip(1, 2, 0);
        pairs(war, 1);
        KiteWar overATower = Check.alone(0, 16, 4, 5);
        overATower.kite(overATower.tower(1, 17, 4), 5);
        overATower.slip(0, 1, 0);
        overATower.slip(1, 1, 0);
        pairs(overATower, 0);
        overATower.turn(1);
        overATower.slip(0, 2, 0);
        pairs(overATower, 1);
    }

    private static void ownSide() {
        Check.sentence("pairs of lines of different sides");
        for (int side = 0; side < 2; side++) {
            KiteWar war = Check.alone(side, 17, 4, 5);
            war.kite(0, 5);
            war.kite(war.tower(side, 19, 4), 5);
            war.slip(0, 1, 0);
            war.slip(1, 1, 0);
            war.slip(2, 1, 3);
            pairs(war, 0);
            war.kite(war.tower(1 - side, 11, 4), 5);
            war.slip(3, 1, 5);
            pairs(war, 3);
        }
    }

    private static void pairsInOneHexagon() {
        Check.sentence("by the hexagons, in each of which pairs are told that were not told yet");
        KiteWar war = new KiteWar();
        int[] towers = {19, 12, 11, 17, 24, 25};
        int[] due = {0, 0, 0, 0, 0, 0, 6, 12, 18, 24, 30, 36};
        for (int tower = 0; tower < 6; tower++) {
            war.tower(tower / 3, towers[tower], 1);
            war.kite(tower, 5);
            war.kite(tower, 5);
        }
        for (int kite = 0; kite < 12; kite++) {
            war.slip(kite, 1, (kite / 2 + 3) % 6);
            pairs(war, due[kite]);
        }
    }

    /** Two lines reach a hexagon from two of its neighbours: the hexagons 0 and 36 are as good as all others. */
    private static void eachHexagon() {
        Check.sentence("Returns the same by a second way: by the hexagons");
        for (int hexagon = 0; hexagon < 37; hexagon++) {
            KiteWar war = new KiteWar();
            for (int direction = 0; direction < 6; direction++) {
                int neighbour = war.beside(hexagon, direction);
                if (neighbour >= 0 && war.account(1) < 2) {
                    int kite = war.kite(war.tower(war.account(1), neighbour, 1), 5);
                    war.slip(kite, 1, (direction + 3) % 6);
                }
            }
            pairs(war, 1);
            Check.due("turn(1)", war.turn(1), 2);
            Check.due("kiteOf(0, 5)", war.kiteOf(0, 5), hexagon);
        }
    }

    /** The two lines share the hexagons 18 and 19, a third one only 19. */
    private static void onePairInSeveralHexagons() {
        Check.sentence("by the hexagons, in each of which pairs are told that were not told yet");
        KiteWar war = new KiteWar();
        Check.flying(war, 0, 16, 5, 5, 3);
        Check.flying(war, 1, 20, 5, 2, 2);
        war.slip(0, 4, 0);
        pairs(war, 0);
        war.slip(1, 4, 0);
        pairs(war, 1);
        war.kite(war.tower(1, 26, 4), 5);
        war.slip(2, 1, 2);
        pairs(war, 2);
    }

    private static void kitesWithoutLines() {
        Check.sentence("pairs of lines of different sides");
        KiteWar war = Check.aboutToCross(4, 4, 4);
        war.turn(1);
        pairs(war, 0);
        war.kite(0, 5);
        war.slip(3, 1, 0);
        war.turn(1);
        war.slip(3, 2, 0);
        pairs(war, 0);
        war.wind(5, 3);
        war.turn(2);
        Check.due("account(6)", war.account(6), 3);
        pairs(war, 0);
    }

    // ---- driftsTo

    private static KiteWar drifting() {
        KiteWar war = Check.aboutToCross(4, 4, 1);
        war.turn(1);
        return war;
    }

    private static void codesOfDriftsTo() {
        Check.sentence("NONE if there is no such kite; BAD if the number is out of range; "
                + "NOTHING if it does not drift, or is out of the field then.");
        KiteWar war = drifting();
        for (int kite : new int[] {-1, 3, 12, MIN, MAX}) {
            Check.due("driftsTo(" + kite + ", 0)", war.driftsTo(kite, 0), KiteWar.NONE);
            Check.due("driftsTo(" + kite + ", 10)", war.driftsTo(kite, 10), KiteWar.NONE);
        }
        for (int turns : new int[] {-1, 10, 11, MIN, MAX}) {
            Check.due("driftsTo(0, " + turns + ")", war.driftsTo(0, turns), KiteWar.BAD);
            KiteWar atRest = Check.alone(0, 18, 4, 5);
            Check.due("driftsTo(0, " + turns + ") at rest", atRest.driftsTo(0, turns), KiteWar.BAD);
        }
        Check.due("driftsTo(0, 0)", war.driftsTo(0, 0), 17);
        Check.due("driftsTo(0, 9)", war.driftsTo(0, 9), 17);
    }

    private static void turnsAhead() {
        Check.sentence("how many, 0 to 9");
        KiteWar war = drifting();
        for (int turns = 0; turns <= 9; turns++) {
            Check.due("driftsTo(0, " + turns + ")", war.driftsTo(0, turns), 17);
        }
        Check.due("driftsTo(0, -1)", war.driftsTo(0, -1), KiteWar.BAD);
        Check.due("driftsTo(0, 10)", war.driftsTo(0, 10), KiteWar.BAD);
    }

    private static void notAdrift() {
        Check.sentence("NOTHING if it does not drift, or is out of the field then.");
        KiteWar war = Check.alone(0, 18, 4, 1);
        Check.due("driftsTo(0, 0) at rest", war.driftsTo(0, 0), NOTHING);
        Check.order(war, 0, 1, 0);
        Check.due("driftsTo(0, 0) in the air", war.driftsTo(0, 0), NOTHING);
        war.wind(0, 1);
        war.turn(1);
        Check.due("driftsTo(0, 0) adrift", war.driftsTo(0, 0), 20);
        war.turn(2);
        Check.due("driftsTo(0, 0) of a lost one", war.driftsTo(0, 0), NOTHING);
        Check.due("driftsTo(0, 9) of a lost one", war.driftsTo(0, 9), NOTHING);
    }

    private static void outOfTheField() {
        Check.sentence("NOTHING if it does not drift, or is out of the field then.");
        KiteWar war = drifting();
        war.wind(0, 1);
        int[] due = {17, 18, 19, 20, 21, NOTHING, NOTHING, NOTHING, NOTHING, NOTHING};
        for (int turns = 0; turns <= 9; turns++) {
            Check.due("driftsTo(0, " + turns + ")", war.driftsTo(0, turns), due[turns]);
        }
        KiteWar strong = drifting();
        strong.wind(0, 2);
        Check.due("driftsTo(0, 2)", strong.driftsTo(0, 2), 21);
        Check.due("driftsTo(0, 3)", strong.driftsTo(0, 3), NOTHING);
    }

    /** The winds 0 and 1 blow in the turns 2 and 3, one out of the field, and the other one back. */
    private static void notBackIntoTheField() {
        Check.sentence("NOTHING if it does not drift, or is out of the field then.");
        KiteWar war = drifting();
        war.wind(3, 3);
        war.wind(0, 3);
        for (int turns = 1; turns <= 9; turns++) {
            Check.due("driftsTo(0, " + turns + ")", war.driftsTo(0, turns), NOTHING);
        }
        war.turn(2);
        Check.due("kiteOf(0, 2)", war.kiteOf(0, 2), 3);
    }

    private static void noTowerOnTheWay() {
        Check.sentence("if no tower took it on the way");
        KiteWar war = drifting();
        war.tower(0, 18, 1);
        war.tower(1, 19, 1);
        war.wind(0, 1);
        int[] due = {17, 18, 19, 20, 21, NOTHING};
        for (int turns = 0; turns < due.length; turns++) {
            Check.due("driftsTo(0, " + turns + ")", war.driftsTo(0, turns), due[turns]);
        }
        war.turn(1);
        Check.due("kiteOf(0, 2)", war.kiteOf(0, 2), 0);
        Check.due("kiteOf(1, 2)", war.kiteOf(1, 2), 3);
    }

    /** The turn is 2: the first wind that blows is the wind 2, and behind the wind 3 comes the wind 0. */
    private static void byTheWindsOfTheTurns() {
        Check.sentence("Returns the hexagon where a kite that drifts will be behind some turns");
        KiteWar war = drifting();
        war.wind(5, 1);
        war.wind(0, 0);
        war.wind(0, 1);
        war.wind(1, 2);
        int[] due = {17, 18, 7, 13, 13, 14, NOTHING};
        for (int turns = 0; turns < due.length; turns++) {
            Check.due("driftsTo(0, " + turns + ")", war.driftsTo(0, turns), due[turns]);
        }
        for (int turn = 1; turn <= 5; turn++) {
            war.turn(1);
            Check.due("kiteOf(0, 5) behind " + turn, war.kiteOf(0, 5), due[turn]);
            Check.due("driftsTo(0, 0) behind " + turn, war.driftsTo(0, 0), due[turn]);
            Check.due("driftsTo(0, " + (5 - turn) + ")", war.driftsTo(0, 5 - turn), 14);
        }
        war.turn(1);
        Check.due("kiteOf(0, 2)", war.kiteOf(0, 2), 3);
    }

    // ---- bestDirection

    private static void codesOfBestDirection() {
        Check.sentence("Returns the direction; NONE if there is no such tower.");
        KiteWar war = new KiteWar();
        Check.due("bestDirection(0)", war.bestDirection(0), KiteWar.NONE);
        war.tower(1, 18, 1);
        for (int tower : new int[] {-1, 1, 6, MIN, MAX}) {
            Check.due("bestDirection(" + tower + ")", war.bestDirection(tower), KiteWar.NONE);
        }
        Check.due("bestDirection(0)", war.bestDirection(0), 0);
    }

    private static void best(int hexagon, int reach, int due) {
        KiteWar war = new KiteWar();
        war.tower(0, hexagon, reach);
        Check.due("bestDirection from " + hexagon + " with " + reach, war.bestDirection(0), due);
    }

    private static void byReachAndField() {
        Check.sentence("the direction in which a line from a tower could be longest, by its reach and by the field");
        int[] corners = {0, 3, 21, 36, 33, 15};
        int[] firstOfLongest = {0, 3, 2, 1, 0, 0};
        for (int corner = 0; corner < 6; corner++) {
            best(corners[corner], 1, firstOfLongest[corner]);
            best(corners[corner], 3, firstOfLongest[corner]);
        }
        best(0, 4, 5);
        best(3, 4, 4);
        best(21, 4, 3);
        best(36, 4, 2);
        best(33, 4, 1);
        best(15, 4, 0);
        best(18, 4, 0);
        best(14, 2, 2);
        best(20, 1, 0);
        best(20, 2, 2);
        best(8, 1, 2);
        best(8, 4, 3);
    }

    /** Three directions lead from 0 along 2 hexagons: 1 and 2, 4 and 9, 5 and 11. */
    private static void fewestLines() {
        Check.sentence("of several the one with the fewest lines of the other side on its hexagons");
        KiteWar war = new KiteWar();
        war.tower(0, 0, 2);
        Check.due("bestDirection(0)", war.bestDirection(0), 0);
        Check.flying(war, 1, 3, 5, 3, 1);
        Check.due("bestDirection(0)", war.bestDirection(0), 4);
        Check.flying(war, 1, 15, 5, 1, 1);
        Check.due("bestDirection(0)", war.bestDirection(0), 5);
        Check.flying(war, 1, 12, 5, 3, 1);
        Check.due("bestDirection(0)", war.bestDirection(0), 0);
    }

    private static void hexagonByHexagon() {
        Check.sentence("counted hexagon by hexagon, of these the lowest");
        KiteWar war = new KiteWar();
        war.tower(0, 0, 2);
        Check.flying(war, 1, 3, 5, 3, 2);
        Check.flying(war, 1, 15, 5, 1, 1);
        Check.flying(war, 1, 12, 5, 3, 1);
        Check.due("bestDirection(0)", war.bestDirection(0), 4);
        war.kite(2, 5);
        Check.order(war, 3, 1, 1);
        Check.due("bestDirection(0), two lines in one hexagon", war.bestDirection(0), 5);
        war.kite(3, 5);
        Check.order(war, 4, 1, 3);
        Check.due("bestDirection(0), all alike", war.bestDirection(0), 0);
    }

    private static void linesAsTheyAre() {
        Check.sentence("the fewest lines of the other side on its hexagons");
        KiteWar war = new KiteWar();
        war.tower(0, 0, 2);
        Check.flying(war, 0, 3, 5, 3, 2);
        Check.due("bestDirection(0), with a line of its own side", war.bestDirection(0), 0);
        KiteWar slips = new KiteWar();
        slips.tower(0, 0, 2);
        slips.kite(slips.tower(1, 3, 2), 5);
        slips.slip(0, 1, 3);
        Check.due("bestDirection(0), with a slip", slips.bestDirection(0), 0);
        slips.turn(1);
        slips.slip(0, 6, 0);
        Check.due("bestDirection(0), with a line", slips.bestDirection(0), 4);
        slips.turn(1);
        Check.due("bestDirection(0), without it", slips.bestDirection(0), 0);
        KiteWar cut = new KiteWar();
        cut.tower(0, 0, 2);
        Check.flying(cut, 1, 3, 1, 3, 1);
        cut.wind(3, 1);
        cut.turn(1);
        Check.due("kiteOf(0, 5)", cut.kiteOf(0, 5), 1);
        Check.due("bestDirection(0), with one that drifts", cut.bestDirection(0), 0);
    }

    /** The longest direction is the best, however many lines there are on it, and lines beyond it count for nothing. */
    private static void lengthBeforeLines() {
        Check.sentence("the direction in which a line from a tower could be longest");
        KiteWar war = new KiteWar();
        war.tower(0, 0, 4);
        Check.flying(war, 1, 32, 5, 2, 3);
        Check.due("bestDirection(0)", war.bestDirection(0), 5);
        KiteWar beyond = new KiteWar();
        beyond.tower(0, 0, 2);
        Check.flying(beyond, 1, 8, 5, 2, 1);
        Check.due("kiteOf(0, 5)", beyond.kiteOf(0, 5), 3);
        Check.due("bestDirection(0)", beyond.bestDirection(0), 0);
    }

    // ---- nearest

    private static void codesOfNearest() {
        Check.sentence("Returns the tower; NONE if there is no such side or hexagon; NOTHING if it has none.");
        KiteWar war = new KiteWar();
        Check.due("nearest(0, 18)", war.nearest(0, 18), NOTHING);
        war.tower(1, 18, 1);
        Check.due("nearest(0, 18)", war.nearest(0, 18), NOTHING);
        Check.due("nearest(1, 18)", war.nearest(1, 18), 0);
        for (int number : new int[] {-1, 2, MIN, MAX}) {
            Check.due("nearest(" + number + ", 18)", war.nearest(number, 18), KiteWar.NONE);
        }
        for (int number : new int[] {-1, 37, MIN, MAX}) {
            Check.due("nearest(0, " + number + ")", war.nearest(0, number), KiteWar.NONE);
            Check.due("nearest(1, " + number + ")", war.nearest(1, number), KiteWar.NONE);
        }
    }

    private static void lowestOfTheNearest() {
        Check.sentence("Returns the tower of a side that is nearest to a hexagon, of several the lowest.");
        KiteWar war = new KiteWar();
        war.tower(1, 18, 1);
        war.tower(0, 21, 1);
        war.tower(0, 15, 1);
        war.tower(0, 0, 1);
        Check.due("nearest(0, 18)", war.nearest(0, 18), 1);
        Check.due("nearest(0, 17)", war.nearest(0, 17), 2);
        Check.due("nearest(0, 19)", war.nearest(0, 19), 1);
        Check.due("nearest(0, 4)", war.nearest(0, 4), 3);
        Check.due("nearest(0, 9)", war.nearest(0, 9), 2);
        Check.due("nearest(0, 15)", war.nearest(0, 15), 2);
        Check.due("nearest(0, 0)", war.nearest(0, 0), 3);
        Check.due("nearest(1, 0)", war.nearest(1, 0), 0);
        KiteWar far = new KiteWar();
        far.tower(0, 0, 1);
        Check.due("nearest(0, 36), 6 steps away", far.nearest(0, 36), 0);
    }

    public static void main(String[] args) {
        noLines();
        bySlips();
        byEachMove();
        nothingElse();
        slipsThatCannotBeDone();
        towersAndTips();
        ownSide();
        eachHexagon();
        pairsInOneHexagon();
        onePairInSeveralHexagons();
        kitesWithoutLines();
        codesOfDriftsTo();
        turnsAhead();
        notAdrift();
        outOfTheField();
        notBackIntoTheField();
        noTowerOnTheWay();
        byTheWindsOfTheTurns();
        codesOfBestDirection();
        byReachAndField();
        fewestLines();
        hexagonByHexagon();
        linesAsTheyAre();
        lengthBeforeLines();
        codesOfNearest();
        lowestOfTheNearest();
        Check.end();
    }
}
