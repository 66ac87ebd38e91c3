/** Promises 20 to 24: texts, orders and lines. */
public final class TextsTest {
    private static void appending() {
        KiteWar war = new KiteWar();
        int[] outside = {31, 127, -1, 0, 256 + 48, Integer.MIN_VALUE, Integer.MAX_VALUE};
        for (int code : outside) {
            Check.due("append(" + code + ")", war.append(code), KiteWar.BAD);
        }
        Check.due("append(32)", war.append(32), 1);
        Check.due("append(126)", war.append(126), 2);
        for (int length = 3; length <= 60; length++) {
            Check.due("append(65)", war.append(65), length);
        }
        Check.due("append(65)", war.append(65), KiteWar.FULL);
        Check.due("append(31)", war.append(31), KiteWar.BAD);
        Check.due("account(16)", war.account(16), 60);
        Check.due("account(17)", war.account(17), 0);
        Check.due("run()", war.run(), -1000);
        Check.due("account(16)", war.account(16), 0);
        Check.due("append(65)", war.append(65), 1);
    }

    private static void fault(String text, int position) {
        KiteWar war = new KiteWar();
        Check.due("run() of \"" + text + "\"", Check.carryOut(war, text), -1000 - position);
        Check.due("reason(false)", war.reason(false), KiteWar.NOTHING);
        Check.due("account(16)", war.account(16), 0);
        Check.due("account(17)", war.account(17), 0);
    }

    private static void faults() {
        String[] whole = {"7 fly 9", "7 out", "7 in", "7 left", "7 right", "7 land", "wind 9*9", "turn 9"};
        for (String order : whole) {
            for (int length = 0; length < order.length(); length++) {
                fault(order.substring(0, length), length);
                fault(order.substring(0, length) + "#", length);
                fault(order + ";" + order.substring(0, length), order.length() + 1 + length);
                fault(order + ";" + order.substring(0, length) + "~;", order.length() + 1 + length);
            }
            fault(order + " ", order.length());
            fault(order + "1", order.length());
            fault(order + ";", order.length() + 1);
            fault(order + ";;", order.length() + 1);
            fault(" " + order, 0);
        }
        fault("x", 0);
        fault("10 in", 1);
        fault("1  in", 2);
        fault("1 lxft", 3);
        fault("1 le", 4);
        fault("1 lend", 4);
        fault("1 laft", 4);
        fault("1 ft", 3);
        fault("wind 1 2", 6);
        fault("wind 1*-", 7);
        fault("turn 10", 6);
        fault("turn x", 5);
        fault("Turn 1", 0);
        fault("/ in", 0);
        fault(": in", 0);
        fault("1 in;1 in;1 in;1 in;1 in;1 in;1 in;1 in;1 in;1 in;1 in;1 in;", 60);
    }

    private static KiteWar withKites() {
        KiteWar war = new KiteWar();
        war.kite(war.tower(0, 18, 4), 5);
        war.kite(war.tower(1, 10, 4), 6);
        return war;
    }

    private static void orders() {
        KiteWar war = withKites();
        Check.due("run()", Check.carryOut(war, "wind 4*1"), 1);
        Check.due("windNow(false)", war.windNow(false), 4);
        Check.due("windNow(true)", war.windNow(true), 1);
        Check.due("run()", Check.carryOut(war, "0 fly 5;1 fly 0;turn 1"), 3);
        Check.due("kite 0", Check.kiteLine(war, 0), "k0 flies 5x1 s5");
        Check.due("kite 1", Check.kiteLine(war, 1), "k1 flies 0x1 s6");
        Check.due("run()", Check.carryOut(war, "0 out;turn 1;0 left;turn 1"), 4);
        Check.due("kite 0", Check.kiteLine(war, 0), "k0 flies 0x2 s5");
        Check.due("run()", Check.carryOut(war, "0 right;1 land;turn 1;0 in"), 4);
        Check.due("kite 0", Check.kiteLine(war, 0), "k0 flies 5x2 s5");
        Check.due("kite 1", Check.kiteLine(war, 1), "k1 rest s6");
        Check.due("account(7)", war.account(7), 1);
        Check.due("account(0)", war.account(0), 4);
        Check.due("seen(0, 0)", war.seen(0, 0), 3);
        Check.due("run()", Check.carryOut(war, "turn 9;turn 9;turn 9;turn 9;turn 9;turn 9;turn 9;turn 9"), 8);
        Check.due("account(0)", war.account(0), 76);
        Check.due("account(16)", war.account(16), 0);
    }

    private static void fails(KiteWar war, String text, int order) {
        int changes = war.account(17);
        Check.refused("run() of \"" + text + "\"", war, Check.carryOut(war, text), 8, order);
        Check.due("account(17)", war.account(17), changes);
        Check.due("account(16)", war.account(16), 0);
    }

    private static void allOrNone() {
        KiteWar war = withKites();
        fails(war, "2 fly 0", 0);
        fails(war, "0 fly 6", 0);
        fails(war, "0 out", 0);
        fails(war, "turn 0", 0);
        fails(war, "wind 6*0", 0);
        fails(war, "wind 0*4", 0);
        fails(war, "0 fly 5;wind 1*1;turn 3;0 fly 1", 3);
        fails(war, "0 fly 5;turn 1;0 out;turn 1;1 right", 4);
        Check.due("kite 0", Check.kiteLine(war, 0), "k0 rest s5");
        Check.due("account(0)", war.account(0), 0);
        Check.due("account(7)", war.account(7), 0);
        Check.due("account(8)", war.account(8), 0);
        for (int winds = 1; winds <= 5; winds++) {
            war.wind(0, 0);
        }
        fails(war, "wind 0*0;wind 0*0", 1);
        Check.due("account(8)", war.account(8), 5);
    }

    private static void oneChange() {
        KiteWar war = withKites();
        Check.due("run()", Check.carryOut(war, "0 fly 5;wind 1*1;turn 3"), 3);
        Check.due("account(17)", war.account(17), 5);
        Check.due("undo()", war.undo(), 4);
        Check.due("kite 0", Check.kiteLine(war, 0), "k0 rest s5");
        Check.due("account(0)", war.account(0), 0);
        Check.due("account(8)", war.account(8), 0);
        for (int change = 0; change < 8; change++) {
            war.turn(1);
        }
        fails(war, "turn 5;turn 0", 1);
        for (int left = 7; left >= 0; left--) {
            Check.due("undo()", war.undo(), left);
            Check.due("account(0)", war.account(0), left);
        }
    }

    private static void rows() {
        KiteWar war = Check.aboutToCross(5, 4, 3);
        Check.due("tell(-1)", war.tell(-1), KiteWar.NONE);
        Check.due("tell(7)", war.tell(7), KiteWar.NONE);
        Check.due("row 1", Check.row(war, 1), "B . . . .");
        Check.due("row 2", Check.row(war, 2), ". 1 . . . .");
        Check.due("row 3", Check.row(war, 3), "A 0 . . . . .");
        Check.due("tell(7)", war.tell(7), KiteWar.NONE);
        Check.due("the line is kept", Check.line(war), "A 0 . . . . .");
        war.turn(1);
        Check.due("row 0", Check.row(war, 0), ". . . .");
        Check.due("row 2", Check.row(war, 2), ". . . . . .");
        Check.due("row 3", Check.row(war, 3), "A + 0 . . . .");
        Check.due("row 6", Check.row(war, 6), ". . . .");
        war.wind(0, 1);
        war.wind(3, 0);
        war.slip(0, 6, 0);
        war.turn(1);
        Check.due("row 3", Check.row(war, 3), "A . . 1 . . .");
        war.tower(1, 18, 1);
        Check.due("row 3", Check.row(war, 3), "A . . B . . .");
        Check.due("row 5", Check.row(war, 5), "B . . . .");
    }

    private static void twoDigits() {
        KiteWar war = new KiteWar();
        for (int tower = 0; tower < 6; tower++) {
            war.tower(tower % 2, tower < 4 ? tower : tower + 18, 1);
            war.kite(tower, 3);
            war.kite(tower, 4);
        }
        war.slip(10, 1, 0);
        war.slip(11, 1, 4);
        war.turn(1);
        Check.due("row 4", Check.row(war, 4), "A B 10 . . .");
        Check.due("row 5", Check.row(war, 5), "11 . . . .");
        Check.due("kite 10", Check.kiteLine(war, 10), "k10 flies 0x1 s3");
        Check.due("kite 9", Check.kiteLine(war, 9), "k9 rest s4");
        Check.due("row 0", Check.row(war, 0), "A B A B");
    }

    private static void kiteLines() {
        KiteWar war = Check.aboutToCross(5, 4, 3);
        Check.due("character(0)", war.character(0), KiteWar.NONE);
        Check.due("tellKite(3)", war.tellKite(3), KiteWar.NONE);
        Check.due("tellKite(-1)", war.tellKite(-1), KiteWar.NONE);
        Check.due("tellKite(0)", war.tellKite(0), 15);
        Check.due("tellKite(3)", war.tellKite(3), KiteWar.NONE);
        Check.due("the line", Check.line(war), "k0 flies 0x1 s5");
        Check.due("character(-1)", war.character(-1), KiteWar.NONE);
        Check.due("character(0)", war.character(0), 'k');
        Check.due("character(14)", war.character(14), '5');
        Check.due("character(15)", war.character(15), KiteWar.NONE);
        Check.due("character(max)", war.character(Integer.MAX_VALUE), KiteWar.NONE);
        war.turn(1);
        Check.due("kite 1", Check.kiteLine(war, 1), "k1 drifts 17 s4");
        war.wind(0, 3);
        war.turn(2);
        Check.due("kite 1", Check.kiteLine(war, 1), "k1 lost");
        war.undo();
        Check.due("the line is not undone", Check.line(war), "k1 lost");
    }

    public static void main(String[] args) {
        appending();
        faults();
        orders();
        allOrNone();
        oneChange();
        rows();
        twoDigits();
        kiteLines();
        Check.end();
    }
}
