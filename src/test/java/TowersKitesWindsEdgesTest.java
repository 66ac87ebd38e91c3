/** The edges of towers, kites and winds: the sentences under these terms and of the promises 5 to 10, each by itself. */
public final class TowersKitesWindsEdgesTest {
    private static final int MIN = Integer.MIN_VALUE;
    private static final int MAX = Integer.MAX_VALUE;
    private static final int NOTHING = KiteWar.NOTHING;

    // ---- towers

    private static void sides() {
        Check.sentence("There are the sides 0 and 1.");
        for (int side : new int[] {-1, 2, 3, MIN, MAX}) {
            Check.due("tower(" + side + ", 18, 1)", new KiteWar().tower(side, 18, 1), KiteWar.NONE);
        }
        for (int side = 0; side < 2; side++) {
            KiteWar war = new KiteWar();
            Check.due("tower(" + side + ", 18, 1)", war.tower(side, 18, 1), 0);
            Check.due("towerOf(0, 0)", war.towerOf(0, 0), side);
        }
    }

    private static void threeTowers() {
        Check.sentence("Each has at most 3 towers");
        for (int side = 0; side < 2; side++) {
            KiteWar war = new KiteWar();
            for (int tower = 0; tower < 3; tower++) {
                Check.due("tower(" + side + ", " + tower + ", 1)", war.tower(side, tower, 1), tower);
            }
            Check.refused("the fourth tower", war, war.tower(side, 3, 1), 1, 3);
            for (int tower = 3; tower < 6; tower++) {
                Check.due("a tower of the other side", war.tower(1 - side, tower, 1), tower);
            }
            Check.refused("its fourth tower", war, war.tower(1 - side, 6, 1), 1, 3);
            Check.refused("the fourth tower", war, war.tower(side, 6, 1), 1, 3);
            Check.due("account(1)", war.account(1), 6);
        }
    }

    private static void numbersOfTowers() {
        Check.sentence("towers are numbered from 0 as they come, whatever their side");
        KiteWar war = new KiteWar();
        int[] sides = {1, 0, 0, 1, 0, 1};
        for (int tower = 0; tower < 6; tower++) {
            Check.due("tower", war.tower(sides[tower], 36 - tower, 1 + tower % 4), tower);
        }
        for (int tower = 0; tower < 6; tower++) {
            Check.numbersOfTower(war, tower, sides[tower], 36 - tower, 1 + tower % 4, 0, 0, 0);
        }
        Check.due("towerOf(-1, 0)", war.towerOf(-1, 0), KiteWar.NONE);
        Check.due("towerOf(6, 0)", war.towerOf(6, 0), KiteWar.NONE);
    }

    private static void oneTowerInAHexagon() {
        Check.sentence("each in a hexagon without another tower");
        KiteWar war = new KiteWar();
        war.tower(1, 0, 2);
        war.tower(0, 36, 2);
        Check.refused("tower(1, 0, 2)", war, war.tower(1, 0, 2), 2, 0);
        Check.refused("tower(0, 0, 1)", war, war.tower(0, 0, 1), 2, 0);
        Check.refused("tower(1, 36, 4)", war, war.tower(1, 36, 4), 2, 1);
        Check.due("tower(1, 35, 4)", war.tower(1, 35, 4), 2);
        Check.due("tower(0, 1, 4)", war.tower(0, 1, 4), 3);
    }

    private static void towerAmongKites() {
        Check.sentence("each in a hexagon without another tower");
        KiteWar war = new KiteWar();
        Check.flying(war, 0, 15, 5, 0, 2);
        Check.due("a tower under a line", war.tower(1, 16, 1), 1);
        Check.due("a tower under a kite", war.tower(1, 17, 1), 2);
        Check.due("the kite still flies", war.kiteOf(0, 2), 1);
        war.turn(1);
        Check.due("and is not taken", war.kiteOf(0, 2), 1);
    }

    private static void reaches() {
        Check.sentence("with a reach from 1 to 4");
        for (int reach : new int[] {0, -1, 5, 6, MIN, MAX}) {
            Check.due("tower(0, 18, " + reach + ")", new KiteWar().tower(0, 18, reach), KiteWar.BAD);
        }
        for (int reach = 1; reach <= 4; reach++) {
            KiteWar war = new KiteWar();
            Check.due("tower(0, 18, " + reach + ")", war.tower(0, 18, reach), 0);
            Check.due("towerOf(0, 2)", war.towerOf(0, 2), reach);
        }
    }

    private static void codesOfTower() {
        Check.sentence("Returns its number; NONE if there is no such side or hexagon; BAD if the reach is out of range; "
                + "REFUSED for the reason 2 or 1.");
        KiteWar war = new KiteWar();
        for (int hexagon = 0; hexagon < 3; hexagon++) {
            war.tower(0, hexagon, 1);
        }
        Check.due("tower(2, 0, 0)", war.tower(2, 0, 0), KiteWar.NONE);
        Check.due("tower(-1, 0, 5)", war.tower(-1, 0, 5), KiteWar.NONE);
        Check.due("tower(0, 37, 0)", war.tower(0, 37, 0), KiteWar.NONE);
        Check.due("tower(0, -1, 5)", war.tower(0, -1, 5), KiteWar.NONE);
        Check.due("tower(0, 2, 0)", war.tower(0, 2, 0), KiteWar.BAD);
        Check.due("tower(0, 3, 5)", war.tower(0, 3, 5), KiteWar.BAD);
        Check.due("reason(false)", war.reason(false), NOTHING);
        Check.refused("tower(0, 2, 1)", war, war.tower(0, 2, 1), 2, 2);
        Check.refused("tower(0, 3, 1)", war, war.tower(0, 3, 1), 1, 3);
        Check.refused("tower(1, 2, 1)", war, war.tower(1, 2, 1), 2, 2);
    }

    // ---- kites

    private static void twoKites() {
        Check.sentence("Each tower has at most 2 kites");
        KiteWar war = new KiteWar();
        war.tower(0, 0, 1);
        war.tower(0, 1, 1);
        Check.due("kite(0, 1)", war.kite(0, 1), 0);
        Check.due("kite(0, 9)", war.kite(0, 9), 1);
        Check.refused("kite(0, 5)", war, war.kite(0, 5), 1, 2);
        Check.due("kite(1, 5)", war.kite(1, 5), 2);
        Check.due("kite(1, 5)", war.kite(1, 5), 3);
        Check.refused("kite(1, 5)", war, war.kite(1, 5), 1, 2);
        Check.due("account(2)", war.account(2), 4);
    }

    /** The one that flies is cut, drifts and is lost: it is a kite of its tower all the while. */
    private static void twoKitesHoweverTheyAre() {
        Check.sentence("Each tower has at most 2 kites");
        KiteWar war = Check.alone(0, 18, 2, 1);
        war.kite(0, 9);
        Check.order(war, 0, 1, 0);
        Check.refused("kite(0, 5) beside one that flies", war, war.kite(0, 5), 1, 2);
        war.wind(0, 1);
        war.turn(1);
        Check.due("kiteOf(0, 2)", war.kiteOf(0, 2), 2);
        Check.refused("kite(0, 5) beside one that drifts", war, war.kite(0, 5), 1, 2);
        war.turn(2);
        Check.due("kiteOf(0, 2)", war.kiteOf(0, 2), 3);
        Check.refused("kite(0, 5) beside one that is lost", war, war.kite(0, 5), 1, 2);
    }

    private static void numbersOfKites() {
        Check.sentence("kites are numbered from 0 as they come");
        KiteWar war = new KiteWar();
        for (int tower = 0; tower < 6; tower++) {
            war.tower(tower % 2, tower, 1);
        }
        int[] towers = {5, 0, 3, 0, 1, 2, 2, 4, 1, 5, 3, 4};
        for (int kite = 0; kite < 12; kite++) {
            Check.due("kite(" + towers[kite] + ")", war.kite(towers[kite], 1 + kite % 9), kite);
        }
        for (int kite = 0; kite < 12; kite++) {
            int tower = towers[kite];
            Check.numbersOfKite(war, kite, tower % 2, tower, 0, NOTHING, 0, tower, 1 + kite % 9, 0, 0);
        }
        Check.due("kiteOf(-1, 0)", war.kiteOf(-1, 0), KiteWar.NONE);
        Check.due("kiteOf(12, 0)", war.kiteOf(12, 0), KiteWar.NONE);
    }

    private static KiteWar withTwelveKites() {
        KiteWar war = new KiteWar();
        for (int tower = 0; tower < 6; tower++) {
            war.tower(tower % 2, 16 + tower, 3);
            war.kite(tower, 9);
            war.kite(tower, 9);
        }
        for (int wind = 0; wind < 6; wind++) {
            war.wind(2, 0);
        }
        return war;
    }

    /** With 6 towers, 12 kites and 6 winds there is no room for more, and all that asks for them goes through all. */
    private static void fullField() {
        Check.sentence("Each tower has at most 2 kites");
        KiteWar war = withTwelveKites();
        for (int kite = 0; kite < 12; kite++) {
            Check.due("slip(" + kite + ", 1, 2)", war.slip(kite, 1, 2), kite / 4 * 2 + kite % 2 + 1);
        }
        Check.due("crossings()", war.crossings(), 0);
        Check.due("crossingsAgain()", war.crossingsAgain(), 0);
        Check.due("turn(1)", war.turn(1), 0);
        Check.accounts(war, 1, 6, 12, 0, 12, 0, 0, 0, 6, 0, 0, 0, 0, 0, 0, 0, 0, 8);
        for (int tower = 0; tower < 6; tower++) {
            Check.numbersOfTower(war, tower, tower % 2, 16 + tower, 3, 2, 2, 0);
            Check.refused("kite(" + tower + ", 9)", war, war.kite(tower, 9), 1, 2);
        }
        Check.due("bestDirection(5)", war.bestDirection(5), 2);
        Check.due("nearest(1, 36)", war.nearest(1, 36), 3);
        Check.due("isBalanced()", war.isBalanced(), 1);
        Check.due("meanStrength()", war.meanStrength(), 9.0);
        Check.due("lostShare()", war.lostShare(), 0.0f);
        Check.due("row 2", Check.row(war, 2), "0 2 4 6 8 10");
        Check.due("row 3", Check.row(war, 3), ". A B A B A B");
        Check.due("the kite 11", Check.kiteLine(war, 11), "k11 flies 2x1 s9");
        Check.due("save()", war.save(), 12);
        Check.due("restore()", war.restore(), 12);
    }

    private static void strengths() {
        Check.sentence("each with a strength from 1 to 9");
        for (int strength : new int[] {0, -1, 10, 11, MIN, MAX}) {
            KiteWar war = new KiteWar();
            war.tower(0, 18, 1);
            Check.due("kite(0, " + strength + ")", war.kite(0, strength), KiteWar.BAD);
        }
        for (int strength = 1; strength <= 9; strength++) {
            Check.due("kiteOf(0, 6)", Check.alone(0, 18, 1, strength).kiteOf(0, 6), strength);
        }
    }

    private static void codesOfKite() {
        Check.sentence("Returns its number; NONE if there is no such tower; BAD if the strength is out of range; "
                + "REFUSED for the reason 1.");
        KiteWar war = new KiteWar();
        Check.due("kite(0, 5)", war.kite(0, 5), KiteWar.NONE);
        war.tower(0, 18, 1);
        for (int tower : new int[] {-1, 1, 6, MIN, MAX}) {
            Check.due("kite(" + tower + ", 5)", war.kite(tower, 5), KiteWar.NONE);
            Check.due("kite(" + tower + ", 0)", war.kite(tower, 0), KiteWar.NONE);
        }
        war.kite(0, 5);
        war.kite(0, 5);
        Check.due("kite(0, 10)", war.kite(0, 10), KiteWar.BAD);
        Check.due("kite(0, 0)", war.kite(0, 0), KiteWar.BAD);
        Check.due("reason(false)", war.reason(false), NOTHING);
        Check.refused("kite(0, 9)", war, war.kite(0, 9), 1, 2);
    }

    private static void howAKiteIs() {
        Check.sentence("A kite is at rest, 0, as at first; flies, 1; drifts, 2; or is lost, 3.");
        KiteWar war = Check.alone(1, 18, 4, 1);
        Check.due("kiteOf(0, 2)", war.kiteOf(0, 2), 0);
        Check.order(war, 0, 1, 3);
        Check.due("kiteOf(0, 2)", war.kiteOf(0, 2), 1);
        war.wind(3, 1);
        war.turn(1);
        Check.due("kiteOf(0, 2)", war.kiteOf(0, 2), 2);
        war.turn(2);
        Check.due("kiteOf(0, 2)", war.kiteOf(0, 2), 3);
        war.turn(9);
        Check.due("kiteOf(0, 2)", war.kiteOf(0, 2), 3);
    }

    private static void lengthsOfLines() {
        Check.sentence("as many steps away as its line is long, from 1 to the reach of the tower");
        for (int reach = 1; reach <= 4; reach++) {
            KiteWar war = Check.alone(0, 15, reach, 5);
            Check.order(war, 0, 1, 0);
            for (int turn = 1; turn <= 5; turn++) {
                int length = Math.min(turn, reach);
                Check.numbersOfKite(war, 0, 0, 0, 1, 0, length, 15 + length, 5, 0, 0);
                Check.order(war, 0, 2, 0);
            }
        }
    }

    /** Lines of the other side that touch one hexagon of the line, or only come near to it. */
    private static void whatLinesCover() {
        Check.sentence("its line covers the hexagons from the one beside the tower to that of the kite, both included");
        int[] towers = {9, 10, 11, 12, 13};
        for (int index = 0; index < towers.length; index++) {
            KiteWar war = new KiteWar();
            Check.flying(war, 0, 16, 5, 0, 2);
            war.kite(war.tower(1, towers[index], 1), 5);
            war.slip(1, 1, 5);
            int touched = towers[index] + 7;
            int due = touched == 17 || touched == 18 ? 1 : 0;
            Check.due("crossings() in the hexagon " + touched, war.crossings(), due);
            Check.due("crossingsAgain() in the hexagon " + touched, war.crossingsAgain(), due);
            Check.due("turn(1), crossed in the hexagon " + touched, war.turn(1), 2 * due);
        }
        KiteWar war = new KiteWar();
        Check.flying(war, 0, 16, 5, 0, 3);
        Check.due("row 3", Check.row(war, 3), ". A + + 0 . .");
    }

    private static void kitesAtRest() {
        Check.sentence("A kite at rest is in the hexagon of its tower, without a line.");
        KiteWar war = new KiteWar();
        Check.flying(war, 0, 15, 5, 0, 1);
        war.kite(war.tower(1, 17, 1), 9);
        Check.numbersOfKite(war, 1, 1, 1, 0, NOTHING, 0, 17, 9, 0, 0);
        war.slip(0, 2, 0);
        Check.due("crossings()", war.crossings(), 0);
        Check.due("turn(1)", war.turn(1), 0);
        Check.due("the line goes over the tower", war.kiteOf(0, 5), 17);
        Check.order(war, 0, 3, 0);
        Check.order(war, 0, 3, 0);
        Check.numbersOfKite(war, 0, 0, 0, 0, NOTHING, 0, 15, 5, 0, 0);
    }

    // ---- winds

    private static void sixWinds() {
        Check.sentence("At most 6 winds are told");
        KiteWar war = new KiteWar();
        for (int wind = 0; wind < 6; wind++) {
            Check.due("wind(" + wind + ", 0)", war.wind(wind, 0), wind + 1);
        }
        Check.refused("wind(0, 0)", war, war.wind(0, 0), 1, 6);
        Check.due("account(8)", war.account(8), 6);
        war.turn(5);
        Check.due("windNow(false)", war.windNow(false), 5);
        war.turn(1);
        Check.due("windNow(false)", war.windNow(false), 0);
    }

    private static void forces() {
        Check.sentence("each with a direction, and with a force from 0 to 3");
        for (int number : new int[] {-1, 6, 7, MIN, MAX}) {
            Check.due("wind(" + number + ", 0)", new KiteWar().wind(number, 0), KiteWar.BAD);
        }
        for (int number : new int[] {-1, 4, 5, MIN, MAX}) {
            Check.due("wind(0, " + number + ")", new KiteWar().wind(0, number), KiteWar.BAD);
        }
        for (int direction = 0; direction < 6; direction++) {
            for (int force = 0; force <= 3; force++) {
                KiteWar war = new KiteWar();
                Check.due("wind(" + direction + ", " + force + ")", war.wind(direction, force), 1);
                Check.due("windNow(false)", war.windNow(false), direction);
                Check.due("windNow(true)", war.windNow(true), force);
            }
        }
    }

    private static void codesOfWind() {
        Check.sentence("Returns how many winds there are then; BAD if a number is out of range; "
                + "REFUSED for the reason 1.");
        KiteWar war = new KiteWar();
        for (int wind = 0; wind < 6; wind++) {
            war.wind(0, 0);
        }
        Check.due("wind(6, 0)", war.wind(6, 0), KiteWar.BAD);
        Check.due("wind(0, 4)", war.wind(0, 4), KiteWar.BAD);
        Check.due("reason(false)", war.reason(false), NOTHING);
        Check.refused("wind(5, 3)", war, war.wind(5, 3), 1, 6);
    }

    private static void windsByTurns() {
        Check.sentence("In the turn t blows the wind whose number is t modulo the number of winds, from 0");
        for (int winds = 1; winds <= 6; winds++) {
            KiteWar war = new KiteWar();
            for (int wind = 0; wind < winds; wind++) {
                war.wind(wind, wind % 4);
            }
            for (int turn = 0; turn <= 2 * winds; turn++) {
                Check.due("windNow(false) in the turn " + turn, war.windNow(false), turn % winds);
                Check.due("windNow(true) in the turn " + turn, war.windNow(true), turn % winds % 4);
                war.turn(1);
            }
        }
    }

    /** One more wind changes which one blows now. */
    private static void windsThatAreToldLate() {
        Check.sentence("In the turn t blows the wind whose number is t modulo the number of winds, from 0");
        KiteWar war = new KiteWar();
        war.turn(5);
        int[] now = {0, 1, 2, 1, 0, 5};
        for (int wind = 0; wind < 6; wind++) {
            war.wind(wind, 0);
            Check.due("windNow(false) of " + (wind + 1) + " winds", war.windNow(false), now[wind]);
        }
    }

    private static void withoutWinds() {
        Check.sentence("without winds none blows, which is as one with the force 0");
        for (int direction = 0; direction < 6; direction++) {
            KiteWar war = Check.alone(0, 18, 4, 1);
            Check.order(war, 0, 1, direction);
            Check.due("turn(9)", war.turn(9), 0);
            Check.due("the kite", Check.kiteLine(war, 0), "k0 flies " + direction + "x1 s1");
        }
        KiteWar drifting = Check.aboutToCross(4, 4, 4);
        drifting.turn(1);
        drifting.turn(9);
        Check.due("driftsTo(0, 9)", drifting.driftsTo(0, 9), 17);
        Check.due("the kite", Check.kiteLine(drifting, 0), "k0 drifts 17 s4");
    }

    private static void windNow() {
        Check.sentence("Returns the number; NOTHING if no winds are told.");
        KiteWar war = new KiteWar();
        war.turn(3);
        Check.due("windNow(true)", war.windNow(true), NOTHING);
        Check.due("windNow(false)", war.windNow(false), NOTHING);
        war.wind(0, 0);
        Check.due("windNow(true)", war.windNow(true), 0);
        Check.due("windNow(false)", war.windNow(false), 0);
        war.undo();
        Check.due("windNow(true)", war.windNow(true), NOTHING);
    }

    // ---- the numbers of towers and kites

    private static void codesOfTowerOf() {
        Check.sentence("Returns the number; NONE if there is no such tower; BAD if what is not from 0 to 5.");
        KiteWar war = new KiteWar();
        Check.due("towerOf(0, 0)", war.towerOf(0, 0), KiteWar.NONE);
        war.tower(1, 18, 3);
        for (int tower : new int[] {-1, 1, 5, 6, MIN, MAX}) {
            Check.due("towerOf(" + tower + ", 0)", war.towerOf(tower, 0), KiteWar.NONE);
            Check.due("towerOf(" + tower + ", 6)", war.towerOf(tower, 6), KiteWar.NONE);
        }
        for (int what : new int[] {-1, 6, 7, MIN, MAX}) {
            Check.due("towerOf(0, " + what + ")", war.towerOf(0, what), KiteWar.BAD);
        }
        Check.numbersOfTower(war, 0, 1, 18, 3, 0, 0, 0);
    }

    private static void kitesOfATower() {
        Check.sentence("3 for its kites, 4 for those of them that fly");
        KiteWar war = Check.alone(0, 18, 4, 1);
        war.tower(0, 36, 4);
        Check.numbersOfTower(war, 0, 0, 18, 4, 1, 0, 0);
        Check.order(war, 0, 1, 0);
        Check.numbersOfTower(war, 0, 0, 18, 4, 1, 1, 0);
        war.kite(0, 9);
        Check.order(war, 1, 1, 1);
        Check.numbersOfTower(war, 0, 0, 18, 4, 2, 2, 0);
        war.wind(0, 1);
        war.turn(1);
        Check.due("kiteOf(0, 2)", war.kiteOf(0, 2), 2);
        Check.numbersOfTower(war, 0, 0, 18, 4, 2, 1, 0);
        war.turn(2);
        Check.due("kiteOf(0, 2)", war.kiteOf(0, 2), 3);
        Check.order(war, 1, 6, 0);
        Check.numbersOfTower(war, 0, 0, 18, 4, 2, 0, 0);
        Check.numbersOfTower(war, 1, 0, 36, 4, 0, 0, 0);
    }

    private static void takenByATower() {
        Check.sentence("5 for the kites that it took so far, of both sides");
        KiteWar war = Check.aboutToCross(4, 4, 4);
        war.tower(1, 17, 4);
        war.turn(1);
        Check.due("towerOf(3, 5)", war.towerOf(3, 5), 3);
        for (int tower = 0; tower < 3; tower++) {
            Check.due("towerOf(" + tower + ", 5)", war.towerOf(tower, 5), 0);
        }
        Check.due("account(13)", war.account(13), 2);
        Check.due("account(14)", war.account(14), 1);
    }

    private static void codesOfKiteOf() {
        Check.sentence("Returns the number; NONE if there is no such kite; BAD if what is not from 0 to 8.");
        KiteWar war = new KiteWar();
        Check.due("kiteOf(0, 0)", war.kiteOf(0, 0), KiteWar.NONE);
        war.tower(1, 18, 3);
        Check.due("kiteOf(0, 0)", war.kiteOf(0, 0), KiteWar.NONE);
        war.kite(0, 7);
        for (int kite : new int[] {-1, 1, 11, 12, MIN, MAX}) {
            Check.due("kiteOf(" + kite + ", 0)", war.kiteOf(kite, 0), KiteWar.NONE);
            Check.due("kiteOf(" + kite + ", 9)", war.kiteOf(kite, 9), KiteWar.NONE);
        }
        for (int what : new int[] {-1, 9, 10, MIN, MAX}) {
            Check.due("kiteOf(0, " + what + ")", war.kiteOf(0, what), KiteWar.BAD);
        }
        Check.numbersOfKite(war, 0, 1, 0, 0, NOTHING, 0, 18, 7, 0, 0);
    }

    private static void directionsOfKites() {
        Check.sentence("3 for its direction, NOTHING if it does not fly");
        for (int direction = 0; direction < 6; direction++) {
            KiteWar war = Check.alone(0, 18, 4, 1);
            Check.due("at rest", war.kiteOf(0, 3), NOTHING);
            Check.order(war, 0, 1, direction);
            Check.due("in the air", war.kiteOf(0, 3), direction);
            war.wind(direction, 1);
            war.turn(1);
            Check.due("kiteOf(0, 2)", war.kiteOf(0, 2), 2);
            Check.due("adrift", war.kiteOf(0, 3), NOTHING);
            war.turn(2);
            Check.due("kiteOf(0, 2)", war.kiteOf(0, 2), 3);
            Check.due("lost", war.kiteOf(0, 3), NOTHING);
        }
    }

    private static void linesAndHexagonsOfKites() {
        Check.sentence("4 for how long its line is, 0 without a line, 5 for its hexagon, NOTHING if it is lost");
        KiteWar war = Check.alone(0, 0, 4, 2);
        Check.numbersOfKite(war, 0, 0, 0, 0, NOTHING, 0, 0, 2, 0, 0);
        Check.order(war, 0, 1, 0);
        Check.order(war, 0, 2, 0);
        Check.numbersOfKite(war, 0, 0, 0, 1, 0, 2, 2, 2, 0, 0);
        war.wind(0, 1);
        war.turn(2);
        Check.numbersOfKite(war, 0, 0, 0, 2, NOTHING, 0, 3, 0, 1, 0);
        war.turn(1);
        Check.numbersOfKite(war, 0, 0, 0, 3, NOTHING, 0, NOTHING, 0, 1, 0);
    }

    private static void hexagonZero() {
        Check.sentence("5 for its hexagon, NOTHING if it is lost");
        KiteWar war = Check.alone(0, 0, 4, 1);
        Check.due("at rest in 0", war.kiteOf(0, 5), 0);
        KiteWar flying = Check.alone(0, 1, 4, 1);
        Check.order(flying, 0, 1, 3);
        Check.due("flies in 0", flying.kiteOf(0, 5), 0);
        KiteWar drifting = Check.alone(0, 2, 4, 1);
        Check.order(drifting, 0, 1, 3);
        drifting.wind(3, 1);
        Check.due("turn(1)", drifting.turn(1), 1);
        Check.due("drifts in 0", drifting.kiteOf(0, 5), 0);
        drifting.turn(1);
        Check.due("is out", drifting.kiteOf(0, 5), NOTHING);
    }

    private static void strengthsOfKites() {
        Check.sentence("6 for its strength");
        KiteWar war = Check.alone(0, 18, 4, 9);
        war.wind(0, 3);
        int[] due = {6, 3, 0};
        war.slip(0, 1, 0);
        for (int turn = 0; turn < 3; turn++) {
            Check.due("turn(1)", war.turn(1), turn == 2 ? 1 : 0);
            Check.due("kiteOf(0, 6)", war.kiteOf(0, 6), due[turn]);
        }
    }

    private static void cutsOfKites() {
        Check.sentence("7 for how often it was cut so far, 8 for the lines that it cut so far");
        KiteWar war = Check.aboutToCross(9, 2, 2);
        Check.numbersOfKite(war, 0, 0, 0, 1, 0, 1, 16, 9, 0, 0);
        war.turn(1);
        Check.numbersOfKite(war, 0, 0, 0, 1, 0, 2, 17, 7, 0, 2);
        Check.numbersOfKite(war, 1, 1, 1, 2, NOTHING, 0, 17, 2, 1, 0);
        war.kite(1, 3);
        Check.order(war, 3, 1, 5);
        Check.order(war, 3, 2, 0);
        Check.numbersOfKite(war, 0, 0, 0, 1, 0, 2, 17, 6, 0, 3);
        Check.numbersOfKite(war, 3, 1, 1, 2, NOTHING, 0, 17, 3, 1, 0);
    }

    public static void main(String[] args) {
        sides();
        threeTowers();
        numbersOfTowers();
        oneTowerInAHexagon();
        towerAmongKites();
        reaches();
        codesOfTower();
        twoKites();
        twoKitesHoweverTheyAre();
        numbersOfKites();
        fullField();
        strengths();
        codesOfKite();
        howAKiteIs();
        lengthsOfLines();
        whatLinesCover();
        kitesAtRest();
        sixWinds();
        forces();
        codesOfWind();
        windsByTurns();
        windsThatAreToldLate();
        withoutWinds();
        windNow();
        codesOfTowerOf();
        kitesOfATower();
        takenByATower();
        codesOfKiteOf();
        directionsOfKites();
        linesAndHexagonsOfKites();
        hexagonZero();
        strengthsOfKites();
        cutsOfKites();
        Check.end();
    }
}
