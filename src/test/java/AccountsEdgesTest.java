/** The edges of accounts, undo and the snapshot: the sentences of the promises 26 to 32, each by itself. */
public final class AccountsEdgesTest {
    private static final int MIN = Integer.MIN_VALUE;
    private static final int MAX = Integer.MAX_VALUE;
    private static final int NOTHING = KiteWar.NOTHING;

    /** Three kites are cut in the turn 1, and blown out of the field in the turn 2. */
    private static KiteWar allBlownOut() {
        KiteWar war = Check.aboutToCross(4, 4, 3);
        war.wind(3, 0);
        war.wind(3, 0);
        war.wind(3, 3);
        war.turn(2);
        return war;
    }

    // ---- accounts

    private static void codesOfAccount() {
        Check.sentence("Returns the account; BAD if what is not from 0 to 17.");
        KiteWar war = new KiteWar();
        for (int what : new int[] {-1, 18, 19, MIN, MAX}) {
            Check.due("account(" + what + ")", war.account(what), KiteWar.BAD);
        }
        for (int what = 0; what <= 17; what++) {
            Check.due("account(" + what + ")", war.account(what), 0);
        }
    }

    private static void turnAndTowers() {
        Check.sentence("0 for the turn, 1 for the towers");
        KiteWar war = new KiteWar();
        for (int tower = 1; tower <= 6; tower++) {
            war.tower(tower % 2, 30 + tower, 1);
            Check.due("account(1)", war.account(1), tower);
            war.turn(tower);
            Check.due("account(0)", war.account(0), tower * (tower + 1) / 2);
        }
        Check.refused("tower(0, 0, 1)", war, war.tower(0, 0, 1), 1, 3);
        Check.due("account(1)", war.account(1), 6);
    }

    /** The side 0 gets 2 points in the first round, the side 1 gets 2 and 3 in the second one. */
    private static void pointsOfBothSides() {
        Check.sentence("9 for the points of the side 0, 10 for those of the side 1");
        KiteWar war = Check.aboutToCross(4, 3, 9);
        war.tear(2);
        Check.accounts(war, 1, 3, 3, 0, 3, 0, 0, 2, 0, 0, 0);
        war.turn(1);
        Check.due("account(9)", war.account(9), 2);
        Check.due("account(10)", war.account(10), 0);
        war.tower(1, 17, 1);
        Check.order(war, 2, 2, 0);
        Check.due("account(9)", war.account(9), 2);
        Check.due("account(10), for a line and for a kite", war.account(10), 5);
        war.undo();
        Check.due("account(10)", war.account(10), 0);
    }

    private static void windsThatAreTold() {
        Check.sentence("8 for the winds");
        KiteWar war = new KiteWar();
        for (int wind = 1; wind <= 6; wind++) {
            war.wind(0, 0);
            Check.due("account(8)", war.account(8), wind);
        }
        war.wind(0, 0);
        Check.due("account(8)", war.account(8), 6);
    }

    private static void kitesAreAllAccountedFor() {
        Check.sentence("2 for the kites, 3 for those at rest, 4 for those that fly, 5 for those that drift, "
                + "6 for those that are lost");
        KiteWar war = Check.aboutToCross(4, 4, 3);
        Check.accounts(war, 1, 3, 3, 0, 3, 0, 0, 3, 0);
        war.kite(0, 5);
        Check.accounts(war, 1, 3, 4, 1, 3, 0, 0, 3, 0);
        war.turn(1);
        Check.accounts(war, 2, 3, 4, 1, 0, 3, 0, 0, 0);
        war.slip(3, 1, 0);
        war.wind(3, 1);
        war.turn(1);
        Check.accounts(war, 3, 3, 4, 0, 1, 3, 0, 0, 1);
        war.turn(1);
        Check.accounts(war, 4, 3, 4, 1, 1, 0, 2, 0, 1, 10, 2, 3, 0, 1, 2, 0, 0, 8);
    }

    private static void slipsOfBothSides() {
        Check.sentence("7 for the slips");
        KiteWar war = Check.aboutToCross(4, 4, 3);
        Check.due("account(7)", war.account(7), 3);
        war.tear(1);
        Check.due("account(7)", war.account(7), 2);
        war.tear(0);
        Check.due("account(7)", war.account(7), 1);
        war.slip(2, 6, 0);
        Check.due("account(7)", war.account(7), 1);
        war.turn(1);
        Check.due("account(7)", war.account(7), 0);
    }

    private static void cutsByStrainAndByLines() {
        Check.sentence("11 for how often lines were cut so far, by strain and by lines, 12 for how often by strain");
        KiteWar war = Check.aboutToCross(9, 2, 2);
        war.turn(1);
        Check.due("account(11)", war.account(11), 2);
        Check.due("account(12)", war.account(12), 0);
        war.wind(0, 3);
        Check.due("turn(9)", war.turn(9), 1);
        Check.due("account(11)", war.account(11), 3);
        Check.due("account(12)", war.account(12), 1);
    }

    private static void takenByTowers() {
        Check.sentence("13 for the kites taken so far by towers of their own side, "
                + "14 for those by towers of the other side");
        KiteWar own = Check.aboutToCross(4, 4, 3);
        own.tower(1, 17, 4);
        own.turn(1);
        Check.accounts(own, 2, 4, 3, 2, 0, 0, 1, 0, 0, 4, 5, 3, 0, 2, 1, 0, 0, 8);
        KiteWar other = Check.aboutToCross(4, 4, 3);
        other.tower(0, 17, 4);
        other.turn(1);
        Check.accounts(other, 2, 4, 3, 1, 0, 0, 2, 0, 0, 10, 2, 3, 0, 1, 2, 0, 0, 8);
        Check.accounts(allBlownOut(), 3, 3, 3, 0, 0, 0, 3, 0, 3, 4, 2, 3, 0, 0, 0, 0, 0, 8);
    }

    private static void movesNotDone() {
        Check.sentence("15 for the moves of slips that were not done so far");
        KiteWar war = Check.alone(0, 0, 1, 5);
        war.slip(0, 1, 1);
        Check.due("account(15)", war.account(15), 0);
        war.tear(0);
        war.turn(1);
        Check.due("account(15)", war.account(15), 0);
        for (int round = 1; round <= 3; round++) {
            Check.order(war, 0, 1, round);
            Check.due("account(15)", war.account(15), round);
        }
        Check.order(war, 0, 1, 0);
        Check.due("account(15)", war.account(15), 3);
        Check.order(war, 0, 2, 0);
        Check.due("account(15)", war.account(15), 4);
        war.undo();
        Check.due("account(15)", war.account(15), 3);
    }

    private static void changesToUndo() {
        Check.sentence("16 for the characters of the text, 17 for the changes that can be undone");
        KiteWar war = new KiteWar();
        for (int change = 1; change <= 10; change++) {
            war.turn(1);
            war.append('t');
            Check.due("account(16)", war.account(16), change);
            Check.due("account(17)", war.account(17), Math.min(8, change));
        }
        war.undo();
        Check.due("account(17)", war.account(17), 7);
        war.save();
        Check.due("account(17)", war.account(17), 7);
        war.restore();
        Check.due("account(17)", war.account(17), 0);
    }

    private static void linesWithinReachAndField() {
        Check.sentence("each kite that flies has a line within the reach and the field");
        for (int reach = 1; reach <= 4; reach++) {
            KiteWar war = Check.alone(0, 18, reach, 1);
            war.slip(0, 1, 0);
            for (int turn = 0; turn <= reach; turn++) {
                war.turn(1);
                Check.due("isBalanced()", war.isBalanced(), 1);
                war.slip(0, 2, 0);
            }
            Check.due("kiteOf(0, 4)", war.kiteOf(0, 4), Math.min(3, reach));
        }
    }

    /** The wind is stronger than the kite: its strength gets 0, and not less, as long as it is anywhere. */
    private static void noStrengthBelowZero() {
        Check.sentence("no kite that rests or flies has a strength below 0");
        KiteWar war = Check.alone(0, 18, 4, 1);
        war.tower(0, 21, 1);
        war.wind(0, 0);
        war.wind(0, 3);
        war.wind(0, 2);
        war.slip(0, 1, 0);
        int[] due = {1, 0, 0};
        for (int turn = 0; turn < 3; turn++) {
            war.turn(1);
            Check.due("kiteOf(0, 6)", war.kiteOf(0, 6), due[turn]);
            Check.due("isBalanced()", war.isBalanced(), 1);
        }
        KiteWar taken = Check.alone(0, 18, 4, 2);
        taken.tower(0, 21, 1);
        taken.wind(0, 2);
        taken.slip(0, 1, 0);
        Check.due("turn(1)", taken.turn(1), 1);
        Check.due("the kite 0", Check.kiteLine(taken, 0), "k0 rest s1");
        Check.due("isBalanced()", taken.isBalanced(), 1);
    }

    private static void balance() {
        Check.sentence("the kites that were cut so far are those that drift, that were taken, and that are lost otherwise");
        Check.due("isBalanced() of a new object", new KiteWar().isBalanced(), 1);
        KiteWar war = Check.aboutToCross(4, 4, 3);
        Check.due("isBalanced() with lines", war.isBalanced(), 1);
        war.tower(0, 17, 4);
        war.wind(0, 0);
        war.wind(0, 0);
        war.wind(0, 3);
        war.turn(1);
        Check.due("isBalanced() with kites taken by both sides", war.isBalanced(), 1);
        for (int round = 0; round < 4; round++) {
            war.slip(0, 1, 0);
            war.turn(3);
            Check.due("isBalanced() with a kite cut once more", war.isBalanced(), 1);
        }
        war.undo();
        Check.due("isBalanced() behind undo()", war.isBalanced(), 1);
        KiteWar drifting = Check.aboutToCross(4, 4, 3);
        drifting.turn(1);
        Check.due("isBalanced() with kites that drift", drifting.isBalanced(), 1);
        Check.due("isBalanced() with kites out of the field", allBlownOut().isBalanced(), 1);
    }

    // ---- the mean and the share

    private static void mean() {
        Check.sentence("Returns the mean; 0.0 without such kites.");
        KiteWar war = new KiteWar();
        Check.due("meanStrength() without kites", war.meanStrength(), 0.0);
        war.tower(0, 0, 1);
        Check.due("meanStrength() without kites", war.meanStrength(), 0.0);
        war.kite(0, 1);
        Check.due("meanStrength()", war.meanStrength(), 1.0);
        war.wind(3, 1);
        war.tower(0, 2, 1);
        war.kite(0, 9);
        war.kite(1, 1);
        Check.due("meanStrength()", war.meanStrength(), 11.0 / 3.0);
        Check.order(war, 2, 1, 3);
        Check.due("the kite 2 is taken", war.account(13), 1);
        Check.due("meanStrength()", war.meanStrength(), 11.0 / 3.0);
    }

    private static void meanOfTheOnesLeft() {
        Check.sentence("Returns the mean strength of the kites that are not lost");
        KiteWar war = Check.alone(0, 18, 4, 1);
        war.kite(0, 4);
        Check.order(war, 0, 1, 0);
        war.wind(0, 1);
        war.turn(1);
        Check.due("meanStrength() with one that drifts with 0", war.meanStrength(), 2.0);
        war.turn(2);
        Check.due("meanStrength() with one lost", war.meanStrength(), 4.0);
        KiteWar crossed = Check.aboutToCross(9, 8, 8);
        crossed.turn(1);
        Check.due("meanStrength()", crossed.meanStrength(), 23.0 / 3.0);
        crossed.wind(3, 1);
        crossed.turn(2);
        Check.due("meanStrength() with two lost", crossed.meanStrength(), 7.0);
        KiteWar lost = Check.alone(0, 0, 1, 1);
        lost.wind(0, 3);
        Check.order(lost, 0, 1, 0);
        Check.due("account(6)", lost.account(6), 1);
        Check.due("meanStrength() with all lost", lost.meanStrength(), 0.0);
    }

    private static void share() {
        Check.sentence("Returns the share; 0.0f without kites.");
        KiteWar war = new KiteWar();
        Check.due("lostShare() without kites", war.lostShare(), 0.0f);
        war = Check.aboutToCross(4, 4, 3);
        Check.due("lostShare()", war.lostShare(), 0.0f);
        war.turn(1);
        Check.due("lostShare() with kites that drift", war.lostShare(), 0.0f);
        war.tower(1, 17, 1);
        war.turn(1);
        Check.due("lostShare()", war.lostShare(), 1.0f / 3.0f);
        war.kite(0, 5);
        Check.due("lostShare()", war.lostShare(), 1.0f / 4.0f);
        KiteWar out = allBlownOut();
        Check.due("lostShare() with all lost", out.lostShare(), 1.0f);
        out.kite(0, 5);
        out.kite(1, 5);
        out.kite(2, 5);
        Check.due("lostShare()", out.lostShare(), 0.5f);
    }

    // ---- undo

    private static void nothingToUndo() {
        Check.sentence("Returns the number of changes that can still be undone; NOTHING if there is none.");
        KiteWar war = new KiteWar();
        Check.due("undo()", war.undo(), NOTHING);
        war.tower(0, 18, 4);
        Check.due("undo()", war.undo(), 0);
        Check.due("undo()", war.undo(), NOTHING);
        Check.due("account(1)", war.account(1), 0);
        Check.due("account(17)", war.account(17), 0);
    }

    private static void eachChange() {
        Check.sentence("The changes are the successful calls of tower, kite, wind, slip, tear, turn and run");
        KiteWar war = new KiteWar();
        war.tower(0, 18, 4);
        Check.due("account(17)", war.account(17), 1);
        war.kite(0, 5);
        Check.due("account(17)", war.account(17), 2);
        war.wind(0, 1);
        Check.due("account(17)", war.account(17), 3);
        war.slip(0, 1, 0);
        Check.due("account(17)", war.account(17), 4);
        war.tear(0);
        Check.due("account(17)", war.account(17), 5);
        war.turn(1);
        Check.due("account(17)", war.account(17), 6);
        Check.carryOut(war, "0 fly 1;turn 1;turn 1");
        Check.due("account(17)", war.account(17), 7);
        int[][] accounts = {{1, 1, 1, 1, 0, 0, 0, 0, 1}, {0, 1, 1, 1, 0, 0, 0, 0, 1}, {0, 1, 1, 1, 0, 0, 0, 1, 1},
            {0, 1, 1, 1, 0, 0, 0, 0, 1}, {0, 1, 1, 1, 0, 0, 0, 0, 0}, {0, 1, 0, 0, 0, 0, 0, 0, 0}, {0, 0}};
        for (int undone = 0; undone < 7; undone++) {
            Check.due("undo()", war.undo(), 6 - undone);
            Check.accounts(war, accounts[undone]);
        }
    }

    /** Behind another change, so that what is undone is this one alone. */
    private static void undoneAlone(int kind) {
        KiteWar war = Check.alone(0, 18, 4, 5);
        war.slip(0, 1, 0);
        war.turn(1);
        war.slip(0, 2, 0);
        switch (kind) {
            case 0:
                war.tower(1, 0, 1);
                break;
            case 1:
                war.kite(0, 5);
                break;
            case 2:
                war.wind(0, 1);
                break;
            case 3:
                war.slip(0, 3, 0);
                break;
            case 4:
                war.tear(0);
                break;
            case 5:
                war.turn(1);
                break;
            default:
                Check.carryOut(war, "wind 0*1;turn 1;0 in");
        }
        Check.due("account(17) behind the change " + kind, war.account(17), 6);
        Check.due("undo() of the change " + kind, war.undo(), 5);
        Check.accounts(war, 1, 1, 1, 0, 1, 0, 0, 1, 0, 0, 0, 0, 0, 0, 0, 0, 0, 5);
        Check.due("seen(0, 0)", war.seen(0, 0), 2);
        Check.due("the kite 0", Check.kiteLine(war, 0), "k0 flies 0x1 s5");
    }

    private static void eachChangeAlone() {
        Check.sentence("Undoes the latest change.");
        for (int kind = 0; kind < 7; kind++) {
            undoneAlone(kind);
        }
    }

    private static void noChanges() {
        Check.sentence("The changes are the successful calls of tower, kite, wind, slip, tear, turn and run");
        KiteWar war = Check.alone(0, 18, 4, 5);
        war.slip(0, 1, 0);
        int before = war.account(17);
        war.beside(0, 0);
        war.apart(0, 1);
        war.windNow(true);
        war.seen(0, 0);
        war.seen(1, 0);
        war.crossings();
        war.crossingsAgain();
        war.driftsTo(0, 1);
        war.bestDirection(0);
        war.nearest(0, 0);
        Check.write(war, "turn 0");
        war.tell(0);
        war.tellKite(0);
        war.save();
        war.run();
        war.run();
        war.turn(0);
        war.turn(10);
        war.tower(0, 18, 4);
        war.slip(0, 2, 0);
        Check.due("account(17)", war.account(17), before);
        Check.due("undo()", war.undo(), before - 1);
        Check.due("account(7)", war.account(7), 0);
    }

    private static void nothingIsDifferent() {
        Check.sentence("also those by which nothing is different");
        KiteWar war = Check.alone(0, 0, 1, 5);
        war.slip(0, 1, 3);
        Check.due("slip(0, 1, 3)", war.slip(0, 1, 3), 1);
        Check.due("account(17)", war.account(17), 4);
        Check.due("undo()", war.undo(), 3);
        Check.due("account(7)", war.account(7), 1);
        Check.due("undo()", war.undo(), 2);
        Check.due("account(7)", war.account(7), 0);
        war.slip(0, 1, 3);
        Check.due("run()", Check.carryOut(war, "0 fly 3"), 1);
        Check.due("account(17)", war.account(17), 4);
        Check.due("undo()", war.undo(), 3);
        Check.due("seen(0, 0)", war.seen(0, 0), 31);
    }

    private static void theLatestEight() {
        Check.sentence("The latest 8 can be undone.");
        for (int changes = 1; changes <= 20; changes++) {
            KiteWar war = new KiteWar();
            for (int change = 0; change < changes; change++) {
                war.turn(1);
            }
            int kept = Math.min(8, changes);
            Check.due("account(17)", war.account(17), kept);
            for (int left = kept - 1; left >= 0; left--) {
                Check.due("undo()", war.undo(), left);
                Check.due("account(0)", war.account(0), changes - kept + left);
            }
            Check.due("undo()", war.undo(), NOTHING);
            Check.due("account(0)", war.account(0), changes - kept);
        }
    }

    private static void changesBehindUndo() {
        Check.sentence("The latest 8 can be undone.");
        KiteWar war = new KiteWar();
        for (int change = 0; change < 12; change++) {
            war.turn(1);
        }
        war.undo();
        war.undo();
        war.undo();
        Check.due("account(0)", war.account(0), 9);
        Check.due("account(17)", war.account(17), 5);
        for (int change = 6; change <= 10; change++) {
            war.turn(9);
            Check.due("account(17)", war.account(17), Math.min(8, change));
        }
        int[] turns = {45, 36, 27, 18, 9, 8, 7, 6};
        for (int undone = 0; undone < 8; undone++) {
            Check.due("undo()", war.undo(), 7 - undone);
            Check.due("account(0)", war.account(0), turns[undone]);
        }
        Check.due("undo()", war.undo(), NOTHING);
    }

    private static void runIsOneChange() {
        Check.sentence("Undoes the latest change.");
        KiteWar war = Check.alone(0, 18, 4, 5);
        Check.due("run()", Check.carryOut(war, "wind 0*1;0 fly 0;turn 3;0 out;turn 9"), 5);
        Check.due("account(17)", war.account(17), 3);
        Check.due("undo()", war.undo(), 2);
        Check.accounts(war, 0, 1, 1, 1, 0, 0, 0, 0, 0, 0, 0, 0, 0, 0, 0, 0, 0, 2);
        war.turn(9);
        Check.due("undo()", war.undo(), 2);
        Check.due("account(0)", war.account(0), 0);
    }

    private static void allIsUndone() {
        Check.sentence("Undoes the latest change.");
        KiteWar war = Check.aboutToCross(9, 4, 3);
        war.tower(1, 17, 4);
        war.wind(0, 1);
        war.undo();
        war.turn(1);
        Check.due("kiteOf(0, 8)", war.kiteOf(0, 8), 2);
        Check.due("kiteOf(1, 7)", war.kiteOf(1, 7), 1);
        war.undo();
        Check.accounts(war, 1, 4, 3, 0, 3, 0, 0, 3, 0, 0, 0, 0, 0, 0, 0, 0, 0, 7);
        Check.numbersOfKite(war, 0, 0, 0, 1, 0, 1, 16, 9, 0, 0);
        Check.numbersOfKite(war, 1, 1, 1, 1, 5, 1, 10, 4, 0, 0);
        Check.numbersOfTower(war, 3, 1, 17, 4, 0, 0, 0);
        Check.due("windNow(true)", war.windNow(true), NOTHING);
        Check.due("seen(1, 2)", war.seen(1, 2), 2);
    }

    // ---- the snapshot

    private static void noSnapshot() {
        Check.sentence("Returns the number of kites; NOTHING if there is no snapshot.");
        KiteWar war = Check.alone(0, 18, 4, 5);
        Check.due("restore()", war.restore(), NOTHING);
        Check.due("account(2)", war.account(2), 1);
        Check.due("account(17)", war.account(17), 2);
        Check.due("undo()", war.undo(), 1);
    }

    private static void emptySnapshot() {
        Check.sentence("Saves all that changes can change, in place of an earlier snapshot.");
        KiteWar war = new KiteWar();
        Check.due("save()", war.save(), 0);
        war.kite(war.tower(0, 18, 4), 5);
        war.wind(0, 1);
        war.turn(9);
        Check.due("restore()", war.restore(), 0);
        Check.accounts(war, 0, 0, 0, 0, 0, 0, 0, 0, 0, 0, 0, 0, 0, 0, 0, 0, 0, 0);
        war.tower(1, 18, 1);
        war.kite(0, 9);
        war.kite(0, 9);
        Check.due("save()", war.save(), 2);
        war.turn(1);
        Check.due("restore()", war.restore(), 2);
        Check.due("account(0)", war.account(0), 0);
        Check.due("towerOf(0, 0)", war.towerOf(0, 0), 1);
        Check.numbersOfKite(war, 0, 1, 0, 0, NOTHING, 0, 18, 9, 0, 0);
    }

    private static void theSnapshotStays() {
        Check.sentence("Restores the snapshot, which stays.");
        KiteWar war = Check.aboutToCross(4, 4, 3);
        Check.due("save()", war.save(), 3);
        Check.due("account(17)", war.account(17), 8);
        for (int round = 0; round < 3; round++) {
            war.turn(1 + round);
            war.tower(0, 17, 1);
            war.wind(0, round);
            Check.due("restore()", war.restore(), 3);
            Check.accounts(war, 1, 3, 3, 0, 3, 0, 0, 3, 0, 0, 0, 0, 0, 0, 0, 0, 0, 0);
            Check.due("the kite 0", Check.kiteLine(war, 0), "k0 flies 0x1 s4");
            Check.due("seen(1, 1)", war.seen(1, 1), 2);
        }
    }

    private static void nothingCanBeUndoneThen() {
        Check.sentence("Nothing can be undone then.");
        KiteWar war = Check.alone(0, 18, 4, 5);
        war.save();
        for (int turn = 0; turn < 9; turn++) {
            war.turn(1);
        }
        Check.due("restore()", war.restore(), 1);
        Check.due("account(17)", war.account(17), 0);
        Check.due("undo()", war.undo(), NOTHING);
        Check.due("account(0)", war.account(0), 0);
        war.turn(3);
        Check.due("account(17)", war.account(17), 1);
        Check.due("undo()", war.undo(), 0);
        Check.due("account(0)", war.account(0), 0);
        Check.due("undo()", war.undo(), NOTHING);
    }

    private static void undoBehindASnapshot() {
        Check.sentence("Saves all that changes can change");
        KiteWar war = Check.alone(0, 18, 4, 5);
        war.wind(2, 1);
        war.slip(0, 1, 4);
        war.turn(5);
        war.save();
        for (int left = 4; left >= 0; left--) {
            Check.due("undo()", war.undo(), left);
        }
        Check.due("account(1)", war.account(1), 0);
        Check.due("restore()", war.restore(), 1);
        Check.accounts(war, 5, 1, 1, 0, 1, 0, 0, 0, 1, 0, 0, 0, 0, 0, 0, 0, 0, 0);
        Check.due("the kite 0", Check.kiteLine(war, 0), "k0 flies 4x1 s5");
        Check.due("windNow(false)", war.windNow(false), 2);
    }

    private static void allIsRestored() {
        Check.sentence("Saves all that changes can change");
        KiteWar war = Check.aboutToCross(9, 4, 3);
        war.tower(1, 17, 4);
        war.turn(1);
        war.slip(0, 6, 0);
        war.wind(0, 0);
        war.wind(1, 2);
        war.save();
        war.wind(5, 3);
        war.kite(0, 1);
        war.slip(1, 1, 2);
        war.slip(3, 1, 3);
        war.turn(2);
        war.restore();
        Check.accounts(war, 2, 4, 3, 2, 1, 0, 0, 1, 2, 4, 0, 2, 0, 2, 0, 0, 0, 0);
        Check.numbersOfTower(war, 3, 1, 17, 4, 0, 0, 2);
        Check.numbersOfKite(war, 0, 0, 0, 1, 0, 2, 17, 7, 0, 2);
        Check.numbersOfKite(war, 1, 1, 1, 0, NOTHING, 0, 4, 1, 1, 0);
        Check.due("seen(0, 0)", war.seen(0, 0), 6);
        Check.refused("seen(1, 1)", war, war.seen(1, 1), 7, 1);
        Check.due("windNow(true)", war.windNow(true), 0);
        war.turn(1);
        Check.due("windNow(true)", war.windNow(true), 2);
    }

    /** Behind the snapshot all is undone, and others take the numbers of what there was. */
    private static void inPlaceOfOthers() {
        Check.sentence("Restores the snapshot");
        KiteWar war = Check.alone(0, 18, 4, 5);
        war.wind(4, 1);
        war.slip(0, 1, 3);
        war.save();
        for (int left = 3; left >= 0; left--) {
            Check.due("undo()", war.undo(), left);
        }
        war.tower(1, 20, 2);
        war.tower(1, 10, 1);
        war.kite(1, 9);
        war.wind(2, 3);
        war.slip(0, 1, 1);
        Check.due("restore()", war.restore(), 1);
        Check.numbersOfTower(war, 0, 0, 18, 4, 1, 0, 0);
        Check.numbersOfKite(war, 0, 0, 0, 0, NOTHING, 0, 18, 5, 0, 0);
        Check.due("seen(0, 0)", war.seen(0, 0), 31);
        Check.due("windNow(false)", war.windNow(false), 4);
        Check.due("windNow(true)", war.windNow(true), 1);
        war.turn(1);
        Check.order(war, 0, 2, 0);
        Check.numbersOfKite(war, 0, 0, 0, 1, 3, 2, 16, 5, 0, 0);
    }

    private static void howManyKitesAreSaved() {
        Check.sentence("Returns the number of kites.");
        KiteWar war = new KiteWar();
        for (int tower = 0; tower < 6; tower++) {
            war.tower(tower % 2, tower, 1);
            Check.due("save()", war.save(), 2 * tower);
            war.kite(tower, 5);
            Check.due("save()", war.save(), 2 * tower + 1);
            war.kite(tower, 5);
        }
        Check.due("restore()", war.restore(), 11);
        Check.due("account(2)", war.account(2), 11);
        war.kite(5, 5);
        Check.due("save()", war.save(), 12);
        Check.due("restore()", war.restore(), 12);
    }

    public static void main(String[] args) {
        codesOfAccount();
        turnAndTowers();
        pointsOfBothSides();
        windsThatAreTold();
        kitesAreAllAccountedFor();
        slipsOfBothSides();
        cutsByStrainAndByLines();
        takenByTowers();
        movesNotDone();
        changesToUndo();
        linesWithinReachAndField();
        noStrengthBelowZero();
        balance();
        mean();
        meanOfTheOnesLeft();
        share();
        nothingToUndo();
        eachChange();
        eachChangeAlone();
        noChanges();
        nothingIsDifferent();
        theLatestEight();
        changesBehindUndo();
        runIsOneChange();
        allIsUndone();
        noSnapshot();
        emptySnapshot();
        theSnapshotStays();
        nothingCanBeUndoneThen();
        undoBehindASnapshot();
        allIsRestored();
        inPlaceOfOthers();
        howManyKitesAreSaved();
        Check.end();
    }
}
