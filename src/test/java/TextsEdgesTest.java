/** The edges of texts and lines: the sentences under "Texts" and of the promises 20 to 24, each by itself. */
public final class TextsEdgesTest {
    private static final int MIN = Integer.MIN_VALUE;
    private static final int MAX = Integer.MAX_VALUE;
    private static final String[] ORDERS =
        {"0 fly 4", "9 fly 9", "0 out", "0 in", "0 left", "0 right", "0 land", "wind 0*0", "wind 9*9", "turn 1", "turn 9"};
    private static final String TWELVE = "1 in;1 in;1 in;1 in;1 in;1 in;1 in;1 in;1 in;1 in;1 in;1 in";

    private static KiteWar withKites() {
        KiteWar war = new KiteWar();
        war.kite(war.tower(0, 18, 4), 5);
        war.kite(war.tower(1, 10, 4), 6);
        return war;
    }

    private static void fault(String text, int position) {
        KiteWar war = withKites();
        Check.due("run() of \"" + text + "\"", Check.carryOut(war, text), -1000 - position);
        Check.due("the reason behind \"" + text + "\"", war.reason(false), KiteWar.NOTHING);
        Check.due("the text behind \"" + text + "\"", war.account(16), 0);
        Check.due("the changes behind \"" + text + "\"", war.account(17), 4);
    }

    private static void fails(KiteWar war, String text, int order) {
        int changes = war.account(17);
        Check.refused("run() of \"" + text + "\"", war, Check.carryOut(war, text), 8, order);
        Check.due("the text behind \"" + text + "\"", war.account(16), 0);
        Check.due("the changes behind \"" + text + "\"", war.account(17), changes);
    }

    /** A text that can be read, whatever its orders can do. */
    private static void readable(String text) {
        Check.due("whether \"" + text + "\" can be read", Check.carryOut(withKites(), text) > -1000 ? 1 : 0, 1);
    }

    private static void done(KiteWar war, String text, int orders) {
        Check.due("run() of \"" + text + "\"", Check.carryOut(war, text), orders);
    }

    // ---- append

    private static void howManyOrders() {
        Check.sentence("Returns how many orders");
        String text = "turn 1";
        for (int orders = 1; orders <= 8; orders++) {
            KiteWar war = withKites();
            done(war, text, orders);
            Check.due("account(0)", war.account(0), orders);
            Check.due("account(17)", war.account(17), 5);
            text += ";turn 1";
        }
    }

    private static void codes() {
        Check.sentence("the code of the character, 32 to 126");
        for (int code : new int[] {31, 127, 128, 0, -1, 10, 256 + 65, 65536 + 65, MIN, MAX}) {
            KiteWar war = new KiteWar();
            Check.due("append(" + code + ")", war.append(code), KiteWar.BAD);
            Check.due("account(16)", war.account(16), 0);
        }
        for (int code = 32; code <= 126; code++) {
            KiteWar war = new KiteWar();
            Check.due("append(" + code + ")", war.append(code), 1);
            Check.due("account(16)", war.account(16), 1);
        }
    }

    private static void sixtyCharacters() {
        Check.sentence("Returns the length of the text; BAD if the code is out of range; "
                + "FULL if the text has 60 characters.");
        KiteWar war = new KiteWar();
        for (int length = 1; length <= 60; length++) {
            Check.due("append(126)", war.append(126), length);
        }
        Check.due("append(126)", war.append(126), KiteWar.FULL);
        Check.due("append(32)", war.append(32), KiteWar.FULL);
        Check.due("append(31)", war.append(31), KiteWar.BAD);
        Check.due("append(127)", war.append(127), KiteWar.BAD);
        Check.due("account(16)", war.account(16), 60);
        Check.due("run()", war.run(), -1000);
        Check.due("append(65)", war.append(65), 1);
    }

    private static void whatIsFullIsKept() {
        Check.sentence("FULL if the text has 60 characters");
        KiteWar war = new KiteWar();
        String text = "turn 1;turn 1;turn 1;turn 1;turn 1;turn 1;wind 0*0;wind 1*1;";
        Check.write(war, text);
        Check.due("append('x')", war.append('x'), KiteWar.FULL);
        Check.due("run() of 60 characters, the last one a ;", war.run(), -1060);
        done(war, "turn 1;turn 1;turn 1;turn 1;turn 1;turn 1;turn 1;wind 0*0", 8);
        KiteWar whole = new KiteWar();
        whole.kite(whole.tower(0, 18, 4), 5);
        String sixty = "0 fly 0;turn 1;0 right;turn 1;0 left;turn 2;wind 1*1;0 fly 1";
        Check.due("the length of the text", sixty.length(), 60);
        Check.write(whole, sixty);
        Check.due("append('2')", whole.append('2'), KiteWar.FULL);
        Check.refused("run() of 60 characters", whole, whole.run(), 8, 7);
        done(whole, sixty.substring(0, 52), 7);
        Check.due("the kite 0", Check.kiteLine(whole, 0), "k0 flies 0x1 s5");
    }

    // ---- texts

    private static void oneOrMore() {
        Check.sentence("A text has one or more orders with \";\" between them");
        fault("", 0);
        fault(";", 0);
        for (String order : ORDERS) {
            readable(order);
            readable(order + ";" + order);
            fault(";" + order, 0);
            fault(order + ";", order.length() + 1);
            fault(order + ";;" + order, order.length() + 1);
            fault(order + order, order.length());
            fault(order + " ;" + order, order.length());
            fault(order + "; " + order, order.length() + 1);
            fault(order + "," + order, order.length());
        }
        done(withKites(), "turn 1", 1);
        done(withKites(), "turn 1;turn 1", 2);
    }

    private static void asManyAsFit() {
        Check.sentence("A text has one or more orders with \";\" between them");
        Check.due("the length of the text", TWELVE.length(), 59);
        KiteWar war = withKites();
        war.slip(1, 1, 0);
        war.turn(1);
        done(war, TWELVE, 12);
        Check.due("account(7)", war.account(7), 1);
        fault(TWELVE + ";", 60);
        fails(withKites(), TWELVE, 0);
    }

    private static void kiteAndBlank() {
        Check.sentence("a kite and a blank, and behind it");
        fault("0", 1);
        fault("0 ", 2);
        fault("0  out", 2);
        fault("0out", 1);
        fault(" 0 out", 0);
        fault("0_out", 1);
        fault("k0 out", 0);
        fault("0 0", 2);
        fault("0 wind", 2);
        fault("0 turn", 2);
        fault("0 ;", 2);
        fault("out", 0);
        fault("fly 0", 0);
    }

    private static void oneDigit() {
        Check.sentence("All numbers have one digit.");
        fault("10 out", 1);
        fault("0 fly 10", 7);
        fault("0 fly -1", 6);
        fault("wind 10*0", 6);
        fault("wind 0*10", 8);
        fault("turn 10", 6);
        fault("turn -1", 5);
        fault("-1 out", 0);
        fault("+1 out", 0);
        fault("00 out", 1);
        fault("turn 01", 6);
        for (char digit = '0'; digit <= '9'; digit++) {
            readable(digit + " out");
            readable("0 fly " + digit);
            readable("wind " + digit + "*" + digit);
            readable("turn " + digit);
        }
        for (char sign : new char[] {'/', ':', ' ', 'a', '~'}) {
            fault(sign + " out", 0);
            fault("0 fly " + sign, 6);
            fault("wind " + sign + "*0", 5);
            fault("wind 0*" + sign, 7);
            fault("turn " + sign, 5);
        }
    }

    private static void firstWrongCharacter() {
        Check.sentence("The fault position of a text is the index of its first character with which no such text "
                + "can continue, or its length if it ends too early");
        for (String order : ORDERS) {
            for (int length = 0; length < order.length(); length++) {
                String start = order.substring(0, length);
                fault(start, length);
                fault(start + "#", length);
                fault(start + "~ and more;", length);
                fault("turn 1;" + start, 7 + length);
                fault("turn 1;" + start + "#", 7 + length);
                fault(start + "#" + order.substring(length), length);
            }
            fault(order + "#", order.length());
            fault(order + "#;x", order.length());
        }
    }

    private static void letterByLetter() {
        Check.sentence("words are looked at letter by letter");
        fault("0 f", 3);
        fault("0 fl", 4);
        fault("0 fly", 5);
        fault("0 fly ", 6);
        fault("0 flx 1", 4);
        fault("0 fly0", 5);
        fault("0 ou", 4);
        fault("0 oat", 3);
        fault("0 outs", 5);
        fault("0 i", 3);
        fault("0 inn", 4);
        fault("0 l", 3);
        fault("0 lx", 3);
        fault("0 le", 4);
        fault("0 lend", 4);
        fault("0 lefx", 5);
        fault("0 la", 4);
        fault("0 laft", 4);
        fault("0 lanx", 5);
        fault("0 r", 3);
        fault("0 rigth", 5);
        fault("0 Out", 2);
        fault("w", 1);
        fault("wend 0*0", 1);
        fault("wind0*0", 4);
        fault("wind  0*0", 5);
        fault("wind 0 0", 6);
        fault("wind 0*", 7);
        fault("t", 1);
        fault("torn 1", 1);
        fault("turns 1", 4);
        fault("turn", 4);
        fault("turn ", 5);
        fault("TURN 1", 0);
    }

    private static void oneAfterTheOther() {
        Check.sentence("The orders are carried out one after the other, all or none.");
        KiteWar war = withKites();
        done(war, "wind 4*1;0 fly 5;turn 1;0 out;turn 1;0 left;turn 1;0 in", 8);
        Check.due("the kite 0", Check.kiteLine(war, 0), "k0 flies 0x2 s5");
        Check.due("account(0)", war.account(0), 3);
        Check.due("account(7)", war.account(7), 1);
        Check.due("windNow(false)", war.windNow(false), 4);
        fails(war, "0 out;turn 1;turn 1;wind 1*1;0 fly 1", 4);
        Check.due("the kite 0", Check.kiteLine(war, 0), "k0 flies 0x2 s5");
        Check.due("account(0)", war.account(0), 3);
        Check.due("account(8)", war.account(8), 1);
        Check.due("seen(0, 0)", war.seen(0, 0), 3);
    }

    private static void allOrNone() {
        Check.sentence("The orders are carried out one after the other, all or none.");
        KiteWar war = Check.aboutToCross(4, 4, 3);
        war.tower(1, 17, 4);
        war.save();
        fails(war, "turn 1;turn 9;1 fly 0;turn 1;0 fly 0", 4);
        Check.accounts(war, 1, 4, 3, 0, 3, 0, 0, 3, 0, 0, 0, 0, 0, 0, 0, 0, 0, 8);
        Check.numbersOfTower(war, 3, 1, 17, 4, 0, 0, 0);
        for (int kite = 0; kite < 3; kite++) {
            Check.due("kiteOf(" + kite + ", 2)", war.kiteOf(kite, 2), 1);
            Check.due("kiteOf(" + kite + ", 7)", war.kiteOf(kite, 7), 0);
            Check.due("kiteOf(" + kite + ", 8)", war.kiteOf(kite, 8), 0);
            Check.due("seen(" + kite + ")", war.seen(kite == 0 ? 0 : 1, kite), 2);
        }
        Check.due("turn(1)", war.turn(1), 3);
        Check.due("restore()", war.restore(), 3);
        Check.due("account(0)", war.account(0), 1);
    }

    // ---- run

    private static void eachOrder() {
        Check.sentence("\"fly \" and a direction, \"out\", \"in\", \"left\", \"right\" or \"land\"; "
                + "\"wind \", a direction, \"*\", and a force; or \"turn \", and how many turns");
        KiteWar war = withKites();
        done(war, "0 fly 4", 1);
        Check.due("seen(0, 0)", war.seen(0, 0), 41);
        done(war, "turn 9", 1);
        Check.due("account(0)", war.account(0), 9);
        String[] moves = {"out", "in", "left", "right", "land"};
        for (int move = 0; move < 5; move++) {
            done(war, "0 " + moves[move], 1);
            Check.due("seen(0, 0) behind " + moves[move], war.seen(0, 0), 2 + move);
        }
        done(war, "wind 5*3", 1);
        Check.due("windNow(false)", war.windNow(false), 5);
        Check.due("windNow(true)", war.windNow(true), 3);
    }

    private static void kitesInOrders() {
        Check.sentence("a kite and a blank");
        KiteWar war = new KiteWar();
        for (int tower = 0; tower < 5; tower++) {
            war.tower(tower % 2, tower, 1);
            war.kite(tower, 5);
            war.kite(tower, 5);
        }
        for (int kite = 0; kite <= 9; kite++) {
            done(war, kite + " fly " + kite % 6, 1);
            Check.due("seen", war.seen(kite / 2 % 2, kite), 1 + kite % 6 * 10);
        }
        fails(withKites(), "2 fly 0", 0);
        fails(withKites(), "9 out", 0);
    }

    private static void ordersThatCannotBeDone() {
        Check.sentence("8, an order cannot be carried out: its number, from 0");
        String[] orders = {"2 fly 0", "0 fly 6", "0 fly 9", "0 out", "0 in", "0 left", "0 right", "0 land",
            "turn 0", "wind 6*0", "wind 0*4", "wind 9*9"};
        for (String order : orders) {
            KiteWar war = withKites();
            fails(war, order, 0);
            fails(war, "turn 1;" + order, 1);
            fails(war, "turn 1;wind 0*0;" + order + ";turn 1", 2);
            Check.due("account(0)", war.account(0), 0);
            Check.due("account(8)", war.account(8), 0);
        }
        fails(Check.aboutToCross(4, 4, 4), "turn 1;0 out", 1);
        fails(Check.aboutToCross(4, 4, 4), "turn 1;wind 3*3;turn 1;1 in;0 land", 3);
        done(withKites(), "0 fly 5;wind 5*3;turn 9", 3);
    }

    private static void windsInOrders() {
        Check.sentence("8, an order cannot be carried out: its number, from 0");
        KiteWar war = withKites();
        done(war, "wind 0*0;wind 1*1;wind 2*2;wind 3*3;wind 4*0;wind 5*1", 6);
        fails(war, "turn 1;wind 0*0", 1);
        Check.due("account(8)", war.account(8), 6);
        KiteWar fresh = withKites();
        fresh.wind(0, 0);
        fails(fresh, "wind 0*0;wind 1*1;wind 2*2;wind 3*3;wind 4*0;wind 5*1", 5);
        Check.due("account(8)", fresh.account(8), 1);
    }

    private static void faultBeforeReason() {
        Check.sentence("-1000 minus the fault position if the text is wrong; REFUSED for the reason 8.");
        fault("9 out;turn", 10);
        fault("turn 0;turn x", 12);
        fault("turn 1;turn 1;", 14);
        KiteWar war = withKites();
        war.tear(0);
        Check.carryOut(war, "9 out;turn");
        Check.due("the reason is that of before", war.reason(false), 7);
        Check.due("account(0)", war.account(0), 0);
    }

    private static void emptiesTheText() {
        Check.sentence("A call that returns a code leaves everything unchanged, except that run empties the text");
        String[] texts = {"turn 1", "turn 0", "turn", "", "x"};
        for (String text : texts) {
            KiteWar war = withKites();
            Check.carryOut(war, text);
            Check.due("account(16)", war.account(16), 0);
            Check.due("run() once more", war.run(), -1000);
            Check.due("append('t')", war.append('t'), 1);
        }
    }

    // ---- tell

    private static void signs() {
        Check.sentence("for each hexagon, with a blank between two, \"A\" or \"B\" if a tower of the side 0 or 1 is there");
        KiteWar war = new KiteWar();
        war.tower(0, 15, 4);
        war.tower(1, 21, 4);
        Check.due("row 3", Check.row(war, 3), "A . . . . . B");
        war.kite(0, 5);
        war.kite(1, 5);
        Check.due("row 3", Check.row(war, 3), "A . . . . . B");
        Check.due("row 2", Check.row(war, 2), ". . . . . .");
        war.tower(0, 0, 1);
        war.tower(1, 3, 1);
        Check.due("row 0", Check.row(war, 0), "A . . B");
    }

    private static void lowestKite() {
        Check.sentence("otherwise the number of the lowest kite that flies or drifts there");
        KiteWar war = Check.aboutToCross(4, 4, 4);
        war.turn(1);
        Check.due("row 3", Check.row(war, 3), "A . 0 . . . .");
        war.kite(0, 9);
        Check.order(war, 3, 1, 0);
        Check.order(war, 3, 2, 0);
        Check.due("row 3", Check.row(war, 3), "A + 0 . . . .");
        war.wind(4, 1);
        war.turn(1);
        Check.due("row 3", Check.row(war, 3), "A + 3 . . . .");
        Check.due("row 4", Check.row(war, 4), ". 0 . . . .");
        war.turn(2);
        Check.due("row 6, all of the others are lost", Check.row(war, 6), ". . . .");
        Check.due("row 5", Check.row(war, 5), "B . . . .");
        war.tower(0, 17, 1);
        Check.due("row 3, with a tower under the kite", Check.row(war, 3), "A + A . . . .");
    }

    private static void linesInRows() {
        Check.sentence("otherwise \"+\" if a line covers it; and otherwise \".\"");
        KiteWar war = new KiteWar();
        Check.flying(war, 0, 15, 5, 0, 4);
        Check.due("row 3", Check.row(war, 3), "A + + + 0 . .");
        war.kite(0, 5);
        Check.order(war, 1, 1, 0);
        Check.due("row 3", Check.row(war, 3), "A 1 + + 0 . .");
        war.tower(1, 17, 1);
        Check.due("row 3", Check.row(war, 3), "A 1 B + 0 . .");
        Check.order(war, 0, 3, 0);
        Check.due("row 3", Check.row(war, 3), "A 1 B 0 . . .");
        Check.order(war, 0, 6, 0);
        Check.due("row 3", Check.row(war, 3), "A 1 B . . . .");
        war.slip(1, 2, 0);
        Check.due("row 3, with a slip", Check.row(war, 3), "A 1 B . . . .");
    }

    private static void twoDigits() {
        Check.sentence("otherwise the number of the lowest kite that flies or drifts there");
        KiteWar war = new KiteWar();
        for (int tower = 0; tower < 6; tower++) {
            war.tower(tower % 2, tower, 2);
            war.kite(tower, 3);
            war.kite(tower, 4);
        }
        war.slip(10, 1, 5);
        war.slip(11, 1, 4);
        war.turn(1);
        Check.due("tell(2)", war.tell(2), 13);
        Check.due("row 2", Check.row(war, 2), ". 11 10 . . .");
        Check.due("the kite 11", Check.kiteLine(war, 11), "k11 flies 4x1 s4");
    }

    private static void codesOfTell() {
        Check.sentence("Returns the length of the line; NONE if there is no such row.");
        KiteWar war = new KiteWar();
        int[] lengths = {7, 9, 11, 13, 11, 9, 7};
        for (int row = 0; row < 7; row++) {
            Check.due("tell(" + row + ")", war.tell(row), lengths[row]);
        }
        for (int row : new int[] {-1, 7, 8, MIN, MAX}) {
            Check.due("tell(" + row + ")", war.tell(row), KiteWar.NONE);
            Check.due("the line behind tell(" + row + ")", Check.line(war), ". . . .");
        }
    }

    private static void inPlaceOfTheLineBefore() {
        Check.sentence("Writes a row of the field, in place of the line before");
        KiteWar war = withKites();
        war.tell(3);
        Check.due("character(12)", war.character(12), '.');
        Check.due("tell(0)", war.tell(0), 7);
        Check.due("character(6)", war.character(6), '.');
        Check.due("character(7)", war.character(7), KiteWar.NONE);
        Check.due("character(12)", war.character(12), KiteWar.NONE);
        war.tellKite(0);
        Check.due("the line", Check.line(war), "k0 rest s5");
        war.tell(6);
        Check.due("the line", Check.line(war), ". . . .");
    }

    // ---- tellKite, character

    private static void howKitesAreTold() {
        Check.sentence("\"k\", its number, and \" rest\", \" lost\", \" drifts \" and its hexagon, or \" flies \", "
                + "the direction, \"x\" and how long its line is; and, if it is not lost, \" s\" and its strength");
        KiteWar war = Check.alone(0, 2, 4, 1);
        Check.due("tellKite(0)", war.tellKite(0), 10);
        Check.due("at rest", Check.kiteLine(war, 0), "k0 rest s1");
        Check.order(war, 0, 1, 3);
        Check.due("in the air", Check.kiteLine(war, 0), "k0 flies 3x1 s1");
        war.wind(3, 1);
        war.turn(1);
        Check.due("adrift in 0, with the strength 0", Check.kiteLine(war, 0), "k0 drifts 0 s0");
        war.turn(1);
        Check.due("tellKite(0)", war.tellKite(0), 7);
        Check.due("lost", Check.kiteLine(war, 0), "k0 lost");
        KiteWar strong = Check.alone(0, 2, 4, 9);
        Check.due("with the strength 9", Check.kiteLine(strong, 0), "k0 rest s9");
        KiteWar two = Check.aboutToCross(4, 4, 4);
        two.turn(1);
        Check.due("adrift in 17", Check.kiteLine(two, 1), "k1 drifts 17 s4");
    }

    private static void asInTheDocument() {
        Check.sentence("as in \"k3 flies 2x4 s5\"");
        KiteWar war = new KiteWar();
        war.tower(0, 0, 1);
        war.tower(1, 36, 4);
        war.kite(0, 1);
        war.kite(0, 1);
        war.kite(1, 1);
        war.kite(1, 5);
        Check.order(war, 3, 1, 2);
        for (int length = 2; length <= 5; length++) {
            Check.order(war, 3, 2, 0);
        }
        Check.due("tellKite(3)", war.tellKite(3), 15);
        Check.due("the line", Check.line(war), "k3 flies 2x4 s5");
    }

    private static void codesOfTellKite() {
        Check.sentence("Returns the length of the line; NONE if there is no such kite.");
        KiteWar war = withKites();
        war.tellKite(1);
        for (int kite : new int[] {-1, 2, 12, MIN, MAX}) {
            Check.due("tellKite(" + kite + ")", war.tellKite(kite), KiteWar.NONE);
            Check.due("the line behind tellKite(" + kite + ")", Check.line(war), "k1 rest s6");
        }
        Check.due("tellKite(0) without kites", new KiteWar().tellKite(0), KiteWar.NONE);
    }

    private static void characters() {
        Check.sentence("Returns a character of the line, which is empty at first.");
        KiteWar war = withKites();
        for (int index : new int[] {-1, 0, 1, MIN, MAX}) {
            Check.due("character(" + index + ") at first", war.character(index), KiteWar.NONE);
        }
        int length = war.tellKite(0);
        Check.due("character(-1)", war.character(-1), KiteWar.NONE);
        Check.due("character(0)", war.character(0), 'k');
        Check.due("character(2)", war.character(2), ' ');
        Check.due("the last character", war.character(length - 1), '5');
        Check.due("character(" + length + ")", war.character(length), KiteWar.NONE);
        Check.due("character(min)", war.character(MIN), KiteWar.NONE);
        Check.due("character(max)", war.character(MAX), KiteWar.NONE);
    }

    public static void main(String[] args) {
        codes();
        sixtyCharacters();
        whatIsFullIsKept();
        oneOrMore();
        asManyAsFit();
        kiteAndBlank();
        oneDigit();
        firstWrongCharacter();
        letterByLetter();
        oneAfterTheOther();
        allOrNone();
        howManyOrders();
        eachOrder();
        kitesInOrders();
        ordersThatCannotBeDone();
        windsInOrders();
        faultBeforeReason();
        emptiesTheText();
        signs();
        lowestKite();
        linesInRows();
        twoDigits();
        codesOfTell();
        inPlaceOfTheLineBefore();
        howKitesAreTold();
        asInTheDocument();
        codesOfTellKite();
        characters();
        Check.end();
    }
}
