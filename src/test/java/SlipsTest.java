/** Promises 11 to 13: slips. */
public final class SlipsTest {
    private static KiteWar withKites() {
        KiteWar war = new KiteWar();
        war.tower(0, 18, 2);
        war.tower(1, 0, 2);
        war.kite(0, 4);
        war.kite(0, 5);
        war.kite(1, 6);
        return war;
    }

    private static void writing() {
        KiteWar war = withKites();
        Check.due("slip(3, 9, 9)", war.slip(3, 9, 9), KiteWar.NONE);
        Check.due("slip(-1, 1, 0)", war.slip(-1, 1, 0), KiteWar.NONE);
        Check.due("slip(0, 0, 0)", war.slip(0, 0, 0), KiteWar.BAD);
        Check.due("slip(0, 7, 0)", war.slip(0, 7, 0), KiteWar.BAD);
        Check.due("slip(0, 1, -1)", war.slip(0, 1, -1), KiteWar.BAD);
        Check.due("slip(0, 1, 6)", war.slip(0, 1, 6), KiteWar.BAD);
        for (int move = 2; move <= 6; move++) {
            Check.due("slip(0, " + move + ", 1)", war.slip(0, move, 1), KiteWar.BAD);
            Check.due("slip(0, " + move + ", -1)", war.slip(0, move, -1), KiteWar.BAD);
            Check.refused("slip(1, " + move + ", 0)", war, war.slip(1, move, 0), 4, 1);
        }
        Check.due("account(7)", war.account(7), 0);
        Check.due("slip(0, 1, 5)", war.slip(0, 1, 5), 1);
        Check.due("slip(0, 1, 0)", war.slip(0, 1, 0), 1);
        Check.due("slip(2, 1, 0)", war.slip(2, 1, 0), 1);
        Check.due("slip(1, 1, 0)", war.slip(1, 1, 0), 2);
        Check.due("account(7)", war.account(7), 3);
        Check.due("kiteOf(0, 2)", war.kiteOf(0, 2), 0);
        war.turn(1);
        Check.due("account(7)", war.account(7), 0);
        Check.refused("slip(0, 1, 1)", war, war.slip(0, 1, 1), 3, 1);
        for (int move = 2; move <= 6; move++) {
            Check.due("slip(0, " + move + ", 0)", war.slip(0, move, 0), 1);
        }
    }

    private static void outOfHand() {
        KiteWar war = Check.aboutToCross(4, 4, 4);
        war.turn(1);
        Check.refused("slip(0, 1, 0)", war, war.slip(0, 1, 0), 5, 2);
        Check.refused("slip(1, 6, 0)", war, war.slip(1, 6, 0), 5, 2);
        Check.due("slip(1, 6, 1)", war.slip(1, 6, 1), KiteWar.BAD);
        war.wind(1, 3);
        war.turn(2);
        Check.due("kiteOf(1, 2)", war.kiteOf(1, 2), 3);
        Check.refused("slip(1, 2, 0)", war, war.slip(1, 2, 0), 5, 3);
        Check.refused("slip(1, 1, 0)", war, war.slip(1, 1, 0), 5, 3);
    }

    private static void tearing() {
        KiteWar war = withKites();
        Check.due("tear(3)", war.tear(3), KiteWar.NONE);
        Check.due("tear(-1)", war.tear(-1), KiteWar.NONE);
        Check.refused("tear(1)", war, war.tear(1), 7, 1);
        war.slip(0, 1, 4);
        war.slip(1, 1, 4);
        Check.due("tear(1)", war.tear(1), 1);
        Check.refused("tear(1)", war, war.tear(1), 7, 1);
        war.turn(1);
        Check.due("kiteOf(1, 2)", war.kiteOf(1, 2), 0);
        Check.due("kiteOf(0, 2)", war.kiteOf(0, 2), 1);
        for (int move = 2; move <= 6; move++) {
            war.slip(0, move, 0);
            Check.due("tear(0)", war.tear(0), move);
        }
        war.turn(1);
        Check.due("kiteOf(0, 3)", war.kiteOf(0, 3), 4);
        Check.due("kiteOf(0, 4)", war.kiteOf(0, 4), 1);
    }

    private static void seeing() {
        KiteWar war = withKites();
        Check.due("seen(-1, 0)", war.seen(-1, 0), KiteWar.NONE);
        Check.due("seen(2, 0)", war.seen(2, 0), KiteWar.NONE);
        Check.due("seen(0, -1)", war.seen(0, -1), KiteWar.NONE);
        Check.due("seen(0, 3)", war.seen(0, 3), KiteWar.NONE);
        Check.refused("seen(0, 1)", war, war.seen(0, 1), 7, 1);
        Check.refused("seen(1, 1)", war, war.seen(1, 1), 6, 1);
        Check.refused("seen(0, 2)", war, war.seen(0, 2), 6, 2);
        for (int direction = 0; direction < 6; direction++) {
            war.slip(2, 1, direction);
            Check.due("seen(1, 2)", war.seen(1, 2), 1 + 10 * direction);
        }
        Check.refused("seen(0, 2)", war, war.seen(0, 2), 6, 2);
        war.slip(0, 1, 3);
        war.turn(1);
        Check.refused("seen(0, 0)", war, war.seen(0, 0), 7, 0);
        for (int move = 2; move <= 6; move++) {
            war.slip(0, move, 0);
            Check.due("seen(0, 0)", war.seen(0, 0), move);
        }
        Check.due("account(17)", war.account(17), 8);
    }

    public static void main(String[] args) {
        writing();
        outOfHand();
        tearing();
        seeing();
        Check.end();
    }
}
