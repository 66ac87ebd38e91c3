/** The edges of slips: the sentences under "Slips" and of the promises 11 to 13, each by itself. */
public final class SlipsEdgesTest {
    private static final int MIN = Integer.MIN_VALUE;
    private static final int MAX = Integer.MAX_VALUE;

    /** The kites 0 of the side 0 and 1 of the side 1, both in the middle of the field, fly. */
    private static KiteWar bothFly() {
        KiteWar war = new KiteWar();
        war.kite(war.tower(0, 16, 3), 5);
        war.kite(war.tower(1, 20, 3), 6);
        war.slip(0, 1, 5);
        war.slip(1, 1, 1);
        war.turn(1);
        return war;
    }

    /** The kite 0 drifts in 17, the kite 1, as strong as the other one, too; behind three more turns both are lost. */
    private static KiteWar bothDrift() {
        KiteWar war = Check.aboutToCross(4, 4, 1);
        war.turn(1);
        war.wind(1, 1);
        return war;
    }

    private static void atRestOrFlying() {
        Check.sentence("For each kite at rest, or that flies, a slip can be written");
        KiteWar war = bothFly();
        for (int move = 2; move <= 6; move++) {
            Check.due("slip(0, " + move + ", 0)", war.slip(0, move, 0), 1);
        }
        war.turn(1);
        Check.due("kiteOf(0, 2)", war.kiteOf(0, 2), 0);
        Check.due("slip(0, 1, 0)", war.slip(0, 1, 0), 1);
        KiteWar drifting = bothDrift();
        Check.refused("slip(0, 1, 0)", drifting, drifting.slip(0, 1, 0), 5, 2);
        drifting.turn(4);
        Check.refused("slip(0, 1, 0)", drifting, drifting.slip(0, 1, 0), 5, 3);
    }

    private static void inPlaceOfAnEarlierOne() {
        Check.sentence("a slip can be written, in place of an earlier one");
        KiteWar war = bothFly();
        Check.due("slip(0, 2, 0)", war.slip(0, 2, 0), 1);
        Check.due("slip(0, 6, 0)", war.slip(0, 6, 0), 1);
        Check.due("seen(0, 0)", war.seen(0, 0), 6);
        Check.due("account(7)", war.account(7), 1);
        war.turn(1);
        Check.due("kiteOf(0, 2)", war.kiteOf(0, 2), 0);
        Check.due("slip(0, 1, 5)", war.slip(0, 1, 5), 1);
        Check.due("slip(0, 1, 1)", war.slip(0, 1, 1), 1);
        Check.due("seen(0, 0)", war.seen(0, 0), 11);
        Check.due("tear(0)", war.tear(0), 1);
        Check.due("account(7)", war.account(7), 0);
        Check.due("slip(0, 1, 0)", war.slip(0, 1, 0), 1);
        Check.due("seen(0, 0)", war.seen(0, 0), 1);
    }

    private static void moves() {
        Check.sentence("1, to fly in a direction; 2, to let the line out; 3, to haul it in; 4, to turn left");
        for (int move : new int[] {0, -1, 7, 8, MIN, MAX}) {
            Check.due("slip(0, " + move + ", 0) at rest", Check.alone(0, 18, 4, 5).slip(0, move, 0), KiteWar.BAD);
            Check.due("slip(0, " + move + ", 0) in the air", bothFly().slip(0, move, 0), KiteWar.BAD);
        }
        String[] due = {"k0 flies 5x2 s5", "k0 rest s5", "k0 flies 0x1 s5", "k0 flies 4x1 s5", "k0 rest s5"};
        for (int move = 2; move <= 6; move++) {
            KiteWar war = bothFly();
            Check.due("slip(0, " + move + ", 0)", war.slip(0, move, 0), 1);
            war.turn(1);
            Check.due("the kite 0", Check.kiteLine(war, 0), due[move - 2]);
        }
    }

    private static void leftBehindFive() {
        Check.sentence("4, to turn left, to the direction that is 1 more, 0 behind 5");
        for (int direction = 0; direction < 6; direction++) {
            KiteWar war = Check.alone(0, 18, 4, 5);
            Check.order(war, 0, 1, direction);
            Check.order(war, 0, 4, 0);
            Check.due("left of " + direction, war.kiteOf(0, 3), direction == 5 ? 0 : direction + 1);
        }
    }

    private static void rightBehindZero() {
        Check.sentence("5, to turn right, to the one that is 1 less");
        for (int direction = 0; direction < 6; direction++) {
            KiteWar war = Check.alone(0, 18, 4, 5);
            Check.order(war, 0, 1, direction);
            Check.order(war, 0, 5, 0);
            Check.due("right of " + direction, war.kiteOf(0, 3), direction == 0 ? 5 : direction - 1);
        }
    }

    private static void ownSlipsAlone() {
        Check.sentence("A side sees its own slips alone.");
        KiteWar war = bothFly();
        war.slip(0, 2, 0);
        war.slip(1, 3, 0);
        Check.due("seen(0, 0)", war.seen(0, 0), 2);
        Check.due("seen(1, 1)", war.seen(1, 1), 3);
        Check.refused("seen(0, 1)", war, war.seen(0, 1), 6, 1);
        Check.refused("seen(1, 0)", war, war.seen(1, 0), 6, 0);
    }

    private static void directions() {
        Check.sentence("the direction in which to fly; 0 for all other moves");
        for (int direction : new int[] {-1, 6, 7, MIN, MAX}) {
            Check.due("slip(0, 1, " + direction + ")", Check.alone(0, 18, 4, 5).slip(0, 1, direction), KiteWar.BAD);
        }
        for (int direction = 0; direction < 6; direction++) {
            Check.due("slip(0, 1, " + direction + ")", Check.alone(0, 18, 4, 5).slip(0, 1, direction), 1);
        }
        for (int move = 2; move <= 6; move++) {
            for (int direction : new int[] {-1, 1, 5, 6, MIN, MAX}) {
                String call = "slip(0, " + move + ", " + direction + ")";
                Check.due(call, bothFly().slip(0, move, direction), KiteWar.BAD);
            }
        }
    }

    private static void slipsOfTheSide() {
        Check.sentence("Returns how many slips there are of the side of the kite then");
        KiteWar war = new KiteWar();
        for (int tower = 0; tower < 6; tower++) {
            war.tower(tower % 2, tower, 1);
            war.kite(tower, 1);
            war.kite(tower, 1);
        }
        for (int kite = 0; kite < 12; kite++) {
            int due = kite / 4 * 2 + kite % 2 + 1;
            Check.due("slip(" + kite + ", 1, 0)", war.slip(kite, 1, 0), due);
        }
        Check.due("slip(0, 1, 1)", war.slip(0, 1, 1), 6);
        Check.due("account(7)", war.account(7), 12);
        war.tear(2);
        Check.due("slip(0, 1, 1)", war.slip(0, 1, 1), 6);
        war.tear(0);
        Check.due("slip(1, 1, 1)", war.slip(1, 1, 1), 5);
        Check.due("slip(2, 1, 1)", war.slip(2, 1, 1), 6);
    }

    private static void codesOfSlip() {
        Check.sentence("NONE if there is no such kite; BAD if a number is out of range; "
                + "REFUSED for the reason 5, 3 or 4.");
        KiteWar war = bothDrift();
        for (int kite : new int[] {-1, 3, 12, MIN, MAX}) {
            Check.due("slip(" + kite + ", 1, 0)", war.slip(kite, 1, 0), KiteWar.NONE);
            Check.due("slip(" + kite + ", 0, 6)", war.slip(kite, 0, 6), KiteWar.NONE);
        }
        Check.due("slip(0, 7, 0)", war.slip(0, 7, 0), KiteWar.BAD);
        Check.due("slip(0, 1, 6)", war.slip(0, 1, 6), KiteWar.BAD);
        Check.due("slip(0, 2, 1)", war.slip(0, 2, 1), KiteWar.BAD);
        Check.due("reason(false)", war.reason(false), KiteWar.NOTHING);
        for (int move = 1; move <= 6; move++) {
            Check.refused("slip(0, " + move + ", 0)", war, war.slip(0, move, 0), 5, 2);
        }
        war.turn(4);
        for (int move = 1; move <= 6; move++) {
            Check.refused("slip(1, " + move + ", 0)", war, war.slip(1, move, 0), 5, 3);
        }
    }

    private static void notAtRest() {
        Check.sentence("3, the kite is not at rest, and the slip is to fly: how it is, 1");
        for (int direction = 0; direction < 6; direction++) {
            KiteWar war = bothFly();
            Check.refused("slip(1, 1, " + direction + ")", war, war.slip(1, 1, direction), 3, 1);
            Check.due("account(7)", war.account(7), 0);
        }
        KiteWar hauledIn = bothFly();
        hauledIn.slip(0, 3, 0);
        Check.refused("slip(0, 1, 0)", hauledIn, hauledIn.slip(0, 1, 0), 3, 1);
        Check.due("the slip before stays", hauledIn.seen(0, 0), 3);
        hauledIn.turn(1);
        Check.due("slip(0, 1, 0)", hauledIn.slip(0, 1, 0), 1);
    }

    private static void atRest() {
        Check.sentence("4, the kite is at rest, and the slip is another one: the kite");
        for (int move = 2; move <= 6; move++) {
            KiteWar war = Check.alone(0, 18, 4, 5);
            war.kite(0, 6);
            Check.refused("slip(1, " + move + ", 0)", war, war.slip(1, move, 0), 4, 1);
            Check.refused("slip(0, " + move + ", 0)", war, war.slip(0, move, 0), 4, 0);
            Check.due("account(7)", war.account(7), 0);
        }
        KiteWar war = Check.alone(0, 18, 4, 5);
        war.slip(0, 1, 3);
        Check.refused("slip(0, 2, 0)", war, war.slip(0, 2, 0), 4, 0);
        Check.due("the slip before stays", war.seen(0, 0), 31);
    }

    private static void tearing() {
        Check.sentence("Returns the move on it; NONE if there is no such kite; REFUSED for the reason 7.");
        KiteWar war = bothFly();
        for (int kite : new int[] {-1, 2, 12, MIN, MAX}) {
            Check.due("tear(" + kite + ")", war.tear(kite), KiteWar.NONE);
        }
        Check.due("reason(false)", war.reason(false), KiteWar.NOTHING);
        Check.refused("tear(1)", war, war.tear(1), 7, 1);
        for (int move = 2; move <= 6; move++) {
            war.slip(1, move, 0);
            Check.due("tear(1)", war.tear(1), move);
            Check.refused("tear(1)", war, war.tear(1), 7, 1);
        }
        KiteWar atRest = Check.alone(0, 18, 4, 5);
        atRest.slip(0, 1, 5);
        Check.due("tear(0), without the direction", atRest.tear(0), 1);
        Check.refused("tear(0)", atRest, atRest.tear(0), 7, 0);
        atRest.turn(1);
        Check.due("kiteOf(0, 2)", atRest.kiteOf(0, 2), 0);
    }

    private static void tornByATurn() {
        Check.sentence("7, the kite has no slip: the kite");
        KiteWar war = bothFly();
        war.slip(0, 2, 0);
        war.turn(1);
        Check.refused("tear(0)", war, war.tear(0), 7, 0);
        Check.refused("seen(1, 1)", war, war.seen(1, 1), 7, 1);
        KiteWar drifting = bothDrift();
        Check.refused("tear(0) of one that drifts", drifting, drifting.tear(0), 7, 0);
        drifting.turn(4);
        Check.refused("tear(1) of one that is lost", drifting, drifting.tear(1), 7, 1);
    }

    private static void seeing() {
        Check.sentence("Returns the move, and 10 more for each 1 of the direction in which to fly");
        KiteWar war = Check.alone(1, 18, 4, 5);
        for (int direction = 0; direction < 6; direction++) {
            war.slip(0, 1, direction);
            Check.due("seen(1, 0)", war.seen(1, 0), 1 + 10 * direction);
        }
        war.turn(1);
        for (int move = 2; move <= 6; move++) {
            war.slip(0, move, 0);
            Check.due("seen(1, 0)", war.seen(1, 0), move);
        }
    }

    private static void codesOfSeen() {
        Check.sentence("NONE if there is no such side or kite; REFUSED for the reason 6 or 7.");
        KiteWar war = bothFly();
        war.slip(0, 2, 0);
        for (int number : new int[] {-1, 2, MIN, MAX}) {
            Check.due("seen(" + number + ", 0)", war.seen(number, 0), KiteWar.NONE);
            Check.due("seen(0, " + number + ")", war.seen(0, number), KiteWar.NONE);
        }
        Check.due("reason(false)", war.reason(false), KiteWar.NOTHING);
        Check.refused("seen(1, 0), with a slip", war, war.seen(1, 0), 6, 0);
        Check.refused("seen(0, 1), without one", war, war.seen(0, 1), 6, 1);
        Check.refused("seen(1, 1)", war, war.seen(1, 1), 7, 1);
    }

    public static void main(String[] args) {
        atRestOrFlying();
        inPlaceOfAnEarlierOne();
        moves();
        leftBehindFive();
        rightBehindZero();
        ownSlipsAlone();
        directions();
        slipsOfTheSide();
        codesOfSlip();
        notAtRest();
        atRest();
        tearing();
        tornByATurn();
        seeing();
        codesOfSeen();
        Check.end();
    }
}
