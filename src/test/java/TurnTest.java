/** Promise 14: a turn, in its five parts. */
public final class TurnTest {
    private static void order(KiteWar war, int kite, int move, int direction) {
        war.slip(kite, move, direction);
        war.turn(1);
    }

    private static void line(KiteWar war, String due) {
        Check.due("the kite 0", Check.kiteLine(war, 0), due);
    }

    private static void howMany() {
        KiteWar war = new KiteWar();
        Check.due("turn(0)", war.turn(0), KiteWar.BAD);
        Check.due("turn(-1)", war.turn(-1), KiteWar.BAD);
        Check.due("turn(10)", war.turn(10), KiteWar.BAD);
        Check.due("account(0)", war.account(0), 0);
        Check.due("turn(9)", war.turn(9), 0);
        Check.due("turn(1)", war.turn(1), 0);
        Check.due("account(0)", war.account(0), 10);
        Check.due("account(17)", war.account(17), 2);
    }

    private static void moves() {
        KiteWar war = new KiteWar();
        war.tower(0, 18, 3);
        war.kite(0, 5);
        order(war, 0, 1, 4);
        line(war, "k0 flies 4x1 s5");
        order(war, 0, 2, 0);
        line(war, "k0 flies 4x2 s5");
        order(war, 0, 4, 0);
        line(war, "k0 flies 5x2 s5");
        order(war, 0, 4, 0);
        line(war, "k0 flies 0x2 s5");
        order(war, 0, 5, 0);
        line(war, "k0 flies 5x2 s5");
        order(war, 0, 5, 0);
        line(war, "k0 flies 4x2 s5");
        order(war, 0, 3, 0);
        line(war, "k0 flies 4x1 s5");
        order(war, 0, 3, 0);
        line(war, "k0 rest s5");
        order(war, 0, 1, 0);
        order(war, 0, 5, 0);
        line(war, "k0 flies 5x1 s5");
        order(war, 0, 2, 0);
        order(war, 0, 6, 0);
        line(war, "k0 rest s5");
        Check.due("kiteOf(0, 5)", war.kiteOf(0, 5), 18);
        Check.due("account(15)", war.account(15), 0);
    }

    private static void notDone() {
        KiteWar war = new KiteWar();
        war.tower(0, 3, 2);
        war.tower(1, 36, 4);
        war.kite(0, 5);
        order(war, 0, 1, 0);
        line(war, "k0 rest s5");
        order(war, 0, 1, 1);
        Check.due("account(15)", war.account(15), 2);
        Check.due("account(7)", war.account(7), 0);
        order(war, 0, 1, 5);
        order(war, 0, 2, 0);
        line(war, "k0 flies 5x2 s5");
        order(war, 0, 2, 0);
        line(war, "k0 flies 5x2 s5");
        Check.due("account(15)", war.account(15), 3);
        order(war, 0, 4, 0);
        line(war, "k0 flies 5x2 s5");
        Check.due("account(15)", war.account(15), 4);
        order(war, 0, 5, 0);
        line(war, "k0 flies 4x2 s5");
        Check.due("account(15)", war.account(15), 4);
        Check.due("account(7)", war.account(7), 0);
        war.kite(1, 5);
        order(war, 1, 1, 3);
        order(war, 1, 2, 0);
        order(war, 1, 2, 0);
        order(war, 1, 2, 0);
        Check.due("kite 1", Check.kiteLine(war, 1), "k1 flies 3x3 s5");
        Check.due("account(15)", war.account(15), 5);
    }

    private static void windInTheLine() {
        KiteWar war = new KiteWar();
        war.tower(0, 18, 3);
        war.kite(0, 4);
        war.wind(1, 1);
        war.wind(1, 0);
        war.wind(4, 1);
        war.wind(4, 2);
        war.wind(4, 3);
        order(war, 0, 1, 1);
        line(war, "k0 flies 1x1 s3");
        order(war, 0, 2, 0);
        line(war, "k0 flies 1x2 s3");
        war.turn(1);
        line(war, "k0 flies 1x2 s3");
        war.turn(1);
        line(war, "k0 flies 1x1 s3");
        war.turn(1);
        line(war, "k0 rest s3");
        Check.due("turn(1)", war.turn(1), 0);
        line(war, "k0 rest s3");
        Check.due("account(11)", war.account(11), 0);
    }

    private static void strain() {
        KiteWar war = new KiteWar();
        war.tower(1, 18, 4);
        war.kite(0, 3);
        war.wind(0, 2);
        order(war, 0, 1, 0);
        line(war, "k0 flies 0x1 s1");
        Check.due("turn(1)", war.turn(1), 1);
        line(war, "k0 drifts 21 s0");
        Check.due("kiteOf(0, 3)", war.kiteOf(0, 3), KiteWar.NOTHING);
        Check.due("kiteOf(0, 4)", war.kiteOf(0, 4), 0);
        Check.due("kiteOf(0, 7)", war.kiteOf(0, 7), 1);
        Check.due("account(11)", war.account(11), 1);
        Check.due("account(12)", war.account(12), 1);
        Check.due("account(9)", war.account(9), 0);
        Check.due("account(10)", war.account(10), 0);
        Check.due("turn(1)", war.turn(1), 0);
        line(war, "k0 lost");
        Check.due("account(6)", war.account(6), 1);
        Check.due("isBalanced()", war.isBalanced(), 1);
    }

    private static void kites(KiteWar war, String first, String second, String third) {
        Check.due("kite 0", Check.kiteLine(war, 0), first);
        Check.due("kite 1", Check.kiteLine(war, 1), second);
        Check.due("kite 2", Check.kiteLine(war, 2), third);
    }

    private static void linesCut(KiteWar war, int first, int second, int third) {
        Check.due("kiteOf(0, 8)", war.kiteOf(0, 8), first);
        Check.due("kiteOf(1, 8)", war.kiteOf(1, 8), second);
        Check.due("kiteOf(2, 8)", war.kiteOf(2, 8), third);
    }

    private static void points(KiteWar war, int first, int second) {
        Check.due("account(9)", war.account(9), first);
        Check.due("account(10)", war.account(10), second);
    }

    private static void oneCutsTwo() {
        KiteWar war = Check.aboutToCross(5, 4, 3);
        Check.due("turn(1)", war.turn(1), 2);
        kites(war, "k0 flies 0x2 s3", "k1 drifts 17 s4", "k2 drifts 17 s3");
        linesCut(war, 2, 0, 0);
        points(war, 4, 0);
        Check.due("account(11)", war.account(11), 2);
        Check.due("account(12)", war.account(12), 0);
        Check.due("kiteOf(0, 7)", war.kiteOf(0, 7), 0);
        Check.due("kiteOf(1, 7)", war.kiteOf(1, 7), 1);
    }

    private static void twoCutOne() {
        KiteWar war = Check.aboutToCross(3, 4, 5);
        Check.due("turn(1)", war.turn(1), 1);
        kites(war, "k0 drifts 17 s3", "k1 flies 5x2 s3", "k2 flies 1x2 s4");
        linesCut(war, 0, 1, 1);
        points(war, 0, 2);
        Check.due("account(11)", war.account(11), 1);
        Check.due("kiteOf(0, 7)", war.kiteOf(0, 7), 1);
    }

    private static void allAtOnce() {
        KiteWar war = Check.aboutToCross(4, 4, 3);
        Check.due("turn(1)", war.turn(1), 3);
        kites(war, "k0 drifts 17 s4", "k1 drifts 17 s4", "k2 drifts 17 s3");
        linesCut(war, 2, 1, 0);
        points(war, 4, 2);
    }

    private static void notLessThanOne() {
        KiteWar war = Check.aboutToCross(2, 1, 1);
        Check.due("turn(1)", war.turn(1), 2);
        kites(war, "k0 flies 0x2 s1", "k1 drifts 17 s1", "k2 drifts 17 s1");
    }

    /** The wind strains the line before the lines are looked at. */
    private static void strainFirst() {
        KiteWar war = Check.aboutToCross(4, 4, 5);
        war.wind(5, 0);
        war.wind(1, 1);
        Check.due("turn(1)", war.turn(1), 3);
        kites(war, "k0 drifts 11 s4", "k1 drifts 11 s4", "k2 drifts 11 s4");
        KiteWar weak = Check.aboutToCross(1, 9, 9);
        weak.wind(0, 0);
        weak.wind(0, 3);
        Check.due("turn(1)", weak.turn(1), 1);
        kites(weak, "k0 drifts 20 s0", "k1 flies 5x2 s9", "k2 flies 1x2 s9");
        points(weak, 0, 0);
    }

    private static void sameSide() {
        KiteWar war = new KiteWar();
        war.kite(war.tower(0, 17, 4), 5);
        war.kite(war.tower(0, 19, 4), 9);
        war.slip(0, 1, 0);
        war.slip(1, 1, 3);
        Check.due("turn(1)", war.turn(1), 0);
        Check.due("kiteOf(0, 5)", war.kiteOf(0, 5), 18);
        Check.due("kiteOf(1, 5)", war.kiteOf(1, 5), 18);
    }

    private static void takenByOwn() {
        KiteWar war = Check.aboutToCross(4, 5, 5);
        war.tower(0, 16, 1);
        war.wind(0, 0);
        war.wind(3, 1);
        war.turn(1);
        line(war, "k0 rest s1");
        Check.due("kiteOf(0, 5)", war.kiteOf(0, 5), 15);
        Check.due("kiteOf(0, 7)", war.kiteOf(0, 7), 1);
        Check.due("towerOf(3, 5)", war.towerOf(3, 5), 1);
        Check.due("towerOf(0, 5)", war.towerOf(0, 5), 0);
        Check.due("account(13)", war.account(13), 1);
        Check.due("account(14)", war.account(14), 0);
        Check.due("isBalanced()", war.isBalanced(), 1);
        points(war, 0, 2);
    }

    private static void takenByOther() {
        KiteWar war = Check.aboutToCross(4, 5, 5);
        war.tower(1, 17, 1);
        war.turn(1);
        line(war, "k0 lost");
        Check.due("towerOf(3, 5)", war.towerOf(3, 5), 1);
        Check.due("account(13)", war.account(13), 0);
        Check.due("account(14)", war.account(14), 1);
        Check.due("account(6)", war.account(6), 1);
        Check.due("isBalanced()", war.isBalanced(), 1);
        points(war, 0, 5);
    }

    /** A tower takes what ends in its hexagon, not what passes over it. */
    private static void passing() {
        KiteWar war = Check.aboutToCross(4, 5, 5);
        war.turn(1);
        war.wind(3, 2);
        war.tower(0, 16, 1);
        war.turn(1);
        line(war, "k0 rest s1");
        Check.due("towerOf(3, 5)", war.towerOf(3, 5), 0);
        Check.due("towerOf(0, 5)", war.towerOf(0, 5), 1);
        KiteWar other = Check.aboutToCross(4, 5, 5);
        other.turn(1);
        other.wind(0, 3);
        other.tower(1, 19, 1);
        other.turn(1);
        line(other, "k0 drifts 20 s4");
    }

    private static void severalTurns() {
        KiteWar war = Check.aboutToCross(4, 4, 4);
        war.wind(4, 1);
        war.wind(2, 1);
        Check.due("turn(3)", war.turn(3), 3);
        Check.due("account(0)", war.account(0), 4);
        line(war, "k0 drifts 9 s4");
    }

    private static void cutOnceMore() {
        KiteWar war = new KiteWar();
        war.kite(war.tower(0, 18, 4), 1);
        war.tower(0, 20, 4);
        war.wind(0, 1);
        for (int round = 1; round <= 3; round++) {
            war.slip(0, 1, 0);
            Check.due("turn(1)", war.turn(1), 1);
            line(war, "k0 rest s1");
            Check.due("kiteOf(0, 7)", war.kiteOf(0, 7), round);
            Check.due("account(13)", war.account(13), round);
            Check.due("isBalanced()", war.isBalanced(), 1);
        }
    }

    public static void main(String[] args) {
        howMany();
        moves();
        notDone();
        windInTheLine();
        strain();
        oneCutsTwo();
        twoCutOne();
        allAtOnce();
        notLessThanOne();
        strainFirst();
        sameSide();
        takenByOwn();
        takenByOther();
        passing();
        severalTurns();
        cutOnceMore();
        Check.end();
    }
}
