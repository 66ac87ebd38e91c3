/** Promises 25 to 32: reasons, accounts, undo and the snapshot. */
public final class AccountsTest {
    private static void reasons() {
        KiteWar war = new KiteWar();
        Check.due("reason(false)", war.reason(false), KiteWar.NOTHING);
        Check.due("reason(true)", war.reason(true), KiteWar.NOTHING);
        war.tower(0, 18, 4);
        war.save();
        Check.refused("tower(1, 18, 1)", war, war.tower(1, 18, 1), 2, 0);
        war.tower(1, 17, 9);
        war.kite(0, 4);
        Check.due("the reason is kept", war.reason(false), 2);
        Check.refused("tear(0)", war, war.tear(0), 7, 0);
        war.undo();
        Check.due("the reason is not undone", war.reason(false), 7);
        war.restore();
        Check.due("the reason is not restored", war.reason(false), 7);
        Check.due("the detail is not restored", war.reason(true), 0);
        Check.carryOut(war, "turn 1;0 fly 1");
        Check.due("the reason of an order", war.reason(false), 8);
        Check.due("the detail of an order", war.reason(true), 1);
    }

    private static void accounts(KiteWar war, int... due) {
        for (int what = 0; what < due.length; what++) {
            Check.due("account(" + what + ")", war.account(what), due[what]);
        }
    }

    private static void allAccounts() {
        KiteWar war = new KiteWar();
        Check.due("account(-1)", war.account(-1), KiteWar.BAD);
        Check.due("account(18)", war.account(18), KiteWar.BAD);
        Check.due("account(max)", war.account(Integer.MAX_VALUE), KiteWar.BAD);
        accounts(war, 0, 0, 0, 0, 0, 0, 0, 0, 0, 0, 0, 0, 0, 0, 0, 0, 0, 0);
        war = Check.aboutToCross(5, 4, 3);
        accounts(war, 1, 3, 3, 0, 3, 0, 0, 3, 0, 0, 0, 0, 0, 0, 0, 0, 0, 8);
        war.turn(1);
        war.wind(3, 1);
        Check.write(war, "0 in;1");
        accounts(war, 2, 3, 3, 0, 1, 2, 0, 0, 1, 4, 0, 2, 0, 0, 0, 0, 6, 8);
        war.turn(2);
        accounts(war, 4, 3, 3, 0, 1, 0, 2, 0, 1, 10, 0, 2, 0, 0, 2, 0, 6, 8);
        war.kite(0, 1);
        war.slip(3, 1, 3);
        war.turn(1);
        accounts(war, 5, 3, 4, 1, 1, 0, 2, 0, 1, 10, 0, 2, 0, 0, 2, 1, 6, 8);
        war.tower(0, 9, 1);
        war.slip(3, 1, 2);
        war.wind(1, 3);
        war.turn(1);
        accounts(war, 6, 4, 4, 1, 1, 0, 2, 0, 2, 10, 0, 2, 0, 0, 2, 2, 6, 8);
    }

    /** The kite 0 is strained and taken by a tower of its own side. */
    private static void strainAccounts() {
        KiteWar war = new KiteWar();
        war.kite(war.tower(0, 18, 4), 1);
        war.tower(0, 20, 4);
        war.wind(0, 1);
        war.slip(0, 1, 0);
        war.turn(1);
        accounts(war, 1, 2, 1, 1, 0, 0, 0, 0, 1, 0, 0, 1, 1, 1, 0, 0, 0, 6);
        Check.due("isBalanced()", war.isBalanced(), 1);
    }

    private static void shares() {
        KiteWar war = new KiteWar();
        Check.due("meanStrength()", war.meanStrength(), 0.0);
        Check.due("lostShare()", war.lostShare(), 0.0f);
        war = Check.aboutToCross(5, 4, 3);
        Check.due("meanStrength()", war.meanStrength(), 4.0);
        Check.due("lostShare()", war.lostShare(), 0.0f);
        war.turn(1);
        Check.due("meanStrength()", war.meanStrength(), 10.0 / 3.0);
        war.kite(1, 9);
        war.kite(1, 9);
        war.kite(2, 9);
        war.kite(0, 9);
        Check.due("meanStrength()", war.meanStrength(), 37.0 / 6.0);
        Check.due("lostShare()", war.lostShare(), 0.0f);
        war.wind(3, 3);
        war.turn(1);
        Check.due("account(6)", war.account(6), 2);
        Check.due("meanStrength()", war.meanStrength(), 30.0 / 4.0);
        Check.due("lostShare()", war.lostShare(), 2.0f / 6.0f);
        KiteWar none = new KiteWar();
        none.kite(none.tower(0, 0, 1), 1);
        none.wind(0, 3);
        none.slip(0, 1, 0);
        none.turn(1);
        Check.due("account(6)", none.account(6), 1);
        Check.due("meanStrength()", none.meanStrength(), 0.0);
        Check.due("lostShare()", none.lostShare(), 1.0f);
    }

    private static void undoing() {
        KiteWar war = new KiteWar();
        Check.due("undo()", war.undo(), KiteWar.NOTHING);
        war.tower(0, 18, 4);
        war.kite(0, 5);
        war.wind(0, 1);
        war.slip(0, 1, 0);
        war.tear(0);
        war.turn(1);
        Check.carryOut(war, "0 fly 2");
        Check.due("account(17)", war.account(17), 7);
        war.tower(0, 18, 4);
        war.kite(0, 0);
        war.wind(6, 0);
        war.tear(1);
        war.turn(0);
        Check.carryOut(war, "0 fly");
        war.save();
        war.append('t');
        Check.due("account(17)", war.account(17), 7);
        Check.due("undo()", war.undo(), 6);
        Check.due("account(7)", war.account(7), 0);
        Check.due("account(16)", war.account(16), 1);
        Check.due("undo()", war.undo(), 5);
        Check.due("account(0)", war.account(0), 0);
        Check.due("undo()", war.undo(), 4);
        Check.due("seen(0, 0)", war.seen(0, 0), 1);
        Check.due("undo()", war.undo(), 3);
        Check.due("account(7)", war.account(7), 0);
        Check.due("undo()", war.undo(), 2);
        Check.due("account(8)", war.account(8), 0);
        Check.due("undo()", war.undo(), 1);
        Check.due("account(2)", war.account(2), 0);
        Check.due("undo()", war.undo(), 0);
        Check.due("account(1)", war.account(1), 0);
        Check.due("undo()", war.undo(), KiteWar.NOTHING);
        Check.due("tower(1, 18, 4)", war.tower(1, 18, 4), 0);
        Check.due("kite(0, 2)", war.kite(0, 2), 0);
        Check.due("kite 0", Check.kiteLine(war, 0), "k0 rest s2");
        Check.due("account(7)", war.account(7), 0);
    }

    private static void undoneEight() {
        KiteWar war = Check.aboutToCross(5, 4, 3);
        for (int turn = 0; turn < 20; turn++) {
            war.turn(1);
        }
        for (int left = 7; left >= 4; left--) {
            Check.due("undo()", war.undo(), left);
        }
        Check.due("account(0)", war.account(0), 17);
        war.turn(9);
        war.turn(9);
        Check.due("account(17)", war.account(17), 6);
        for (int left = 5; left >= 0; left--) {
            Check.due("undo()", war.undo(), left);
        }
        Check.due("undo()", war.undo(), KiteWar.NOTHING);
        Check.due("account(0)", war.account(0), 13);
    }

    private static void undoneTurn() {
        KiteWar war = Check.aboutToCross(4, 4, 3);
        war.tower(1, 17, 4);
        Check.due("turn(1)", war.turn(1), 3);
        Check.due("account(9)", war.account(9), 4);
        Check.due("towerOf(3, 5)", war.towerOf(3, 5), 3);
        Check.due("account(13)", war.account(13), 2);
        Check.due("account(14)", war.account(14), 1);
        Check.due("account(10)", war.account(10), 5);
        war.undo();
        accounts(war, 1, 4, 3, 0, 3, 0, 0, 3, 0, 0, 0, 0, 0, 0, 0, 0, 0, 7);
        Check.due("towerOf(3, 5)", war.towerOf(3, 5), 0);
        Check.due("kiteOf(0, 8)", war.kiteOf(0, 8), 0);
        Check.due("kiteOf(0, 7)", war.kiteOf(0, 7), 0);
        Check.due("kite 0", Check.kiteLine(war, 0), "k0 flies 0x1 s4");
        Check.due("crossings()", war.crossings(), 2);
        Check.due("turn(1)", war.turn(1), 3);
    }

    private static void snapshots() {
        KiteWar war = new KiteWar();
        Check.due("restore()", war.restore(), KiteWar.NOTHING);
        Check.due("save()", war.save(), 0);
        war.tower(0, 18, 4);
        war.kite(0, 5);
        war.kite(0, 6);
        war.slip(1, 1, 2);
        Check.due("save()", war.save(), 2);
        Check.due("account(17)", war.account(17), 4);
        Check.due("undo()", war.undo(), 3);
        war.turn(3);
        war.tower(1, 20, 4);
        war.kite(1, 5);
        Check.write(war, "turn");
        war.tellKite(0);
        war.tear(0);
        Check.due("restore()", war.restore(), 2);
        accounts(war, 0, 1, 2, 2, 0, 0, 0, 1, 0, 0, 0, 0, 0, 0, 0, 0, 4, 0);
        Check.due("the line stays", Check.line(war), "k0 rest s5");
        Check.due("the reason stays", war.reason(false), 7);
        Check.due("undo()", war.undo(), KiteWar.NOTHING);
        war.turn(1);
        Check.due("kite 1", Check.kiteLine(war, 1), "k1 flies 2x1 s6");
        Check.due("restore()", war.restore(), 2);
        Check.due("kite 1", Check.kiteLine(war, 1), "k1 rest s6");
        Check.due("seen(0, 1)", war.seen(0, 1), 21);
        war.turn(1);
        Check.due("undo()", war.undo(), 0);
        Check.due("seen(0, 1)", war.seen(0, 1), 21);
    }

    /** What the snapshot holds comes back in place of what took its number. */
    private static void snapshotInPlace() {
        KiteWar war = new KiteWar();
        war.tower(0, 18, 4);
        war.kite(0, 5);
        war.wind(4, 1);
        war.slip(0, 1, 3);
        war.save();
        for (int left = 3; left >= 0; left--) {
            war.undo();
        }
        war.tower(1, 20, 2);
        war.tower(0, 10, 1);
        war.kite(1, 9);
        war.wind(2, 3);
        war.slip(0, 1, 1);
        war.turn(1);
        war.restore();
        int[] tower = {0, 18, 4, 1, 0, 0};
        for (int what = 0; what < tower.length; what++) {
            Check.due("towerOf(0, " + what + ")", war.towerOf(0, what), tower[what]);
        }
        int[] kite = {0, 0, 0, KiteWar.NOTHING, 0, 18, 5, 0, 0};
        for (int what = 0; what < kite.length; what++) {
            Check.due("kiteOf(0, " + what + ")", war.kiteOf(0, what), kite[what]);
        }
        Check.due("seen(0, 0)", war.seen(0, 0), 31);
        Check.due("windNow(false)", war.windNow(false), 4);
        Check.due("windNow(true)", war.windNow(true), 1);
        war.turn(1);
        war.slip(0, 2, 0);
        war.turn(1);
        Check.due("the kite 0", Check.kiteLine(war, 0), "k0 flies 3x2 s5");
    }

    public static void main(String[] args) {
        reasons();
        allAccounts();
        strainAccounts();
        shares();
        undoing();
        undoneEight();
        undoneTurn();
        snapshots();
        snapshotInPlace();
        Check.end();
    }
}
