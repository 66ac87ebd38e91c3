import java.util.function.Function;
import java.util.function.ToIntFunction;

/**
 * The sentences under "Codes", call by call: of two wars that were made alike one gets a call that
 * returns a code; however the two are looked at then, they are alike but for the reason.
 */
public final class CodesEdgesTest {
    /** A war in which there is something of each kind: lines, slips, winds, points, a text, a line, a snapshot, changes. */
    private static KiteWar full() {
        KiteWar war = Check.aboutToCross(5, 4, 3);
        war.kite(0, 2);
        war.kite(1, 6);
        war.tower(0, 30, 2);
        war.tower(1, 36, 1);
        war.save();
        war.turn(1);
        for (int wind = 0; wind < 6; wind++) {
            war.wind((wind + 5) % 6, wind == 2 ? 1 : 0);
        }
        war.slip(0, 6, 0);
        war.turn(1);
        war.slip(3, 1, 5);
        war.slip(4, 1, 0);
        war.tower(0, 9, 3);
        Check.write(war, "3 fly 1;turn 2");
        war.tellKite(1);
        Check.refused("tear(0)", war, war.tear(0), 7, 0);
        return war;
    }

    /** All that can be asked, but for the reasons, which asking changes. */
    private static String picture(KiteWar war) {
        StringBuilder picture = new StringBuilder(Check.line(war));
        for (int what = 0; what <= 17; what++) {
            picture.append(' ').append(war.account(what));
        }
        for (int tower = 0; tower < 6; tower++) {
            picture.append(" t");
            for (int what = 0; what <= 5; what++) {
                picture.append(' ').append(war.towerOf(tower, what));
            }
        }
        for (int kite = 0; kite < 6; kite++) {
            picture.append(" k");
            for (int what = 0; what <= 8; what++) {
                picture.append(' ').append(war.kiteOf(kite, what));
            }
            picture.append(' ').append(war.seen(0, kite)).append(' ').append(war.seen(1, kite));
        }
        picture.append(" w ").append(war.windNow(true)).append(' ').append(war.windNow(false));
        picture.append(" c ").append(war.crossings()).append(' ').append(war.meanStrength());
        return picture.toString();
    }

    private static String undone(KiteWar war, int changes) {
        for (int change = 0; change < changes; change++) {
            war.undo();
        }
        return picture(war);
    }

    private static String restored(KiteWar war) {
        return war.restore() + picture(war);
    }

    private static String carriedOut(KiteWar war) {
        return war.run() + picture(war);
    }

    private static void alike(String call, ToIntFunction<KiteWar> made, int code, Function<KiteWar, String> look) {
        KiteWar one = full();
        KiteWar other = full();
        Check.due(call, made.applyAsInt(one), code);
        if (code != KiteWar.REFUSED) {
            Check.due("the reason behind " + call, one.reason(false), 7);
            Check.due("the detail behind " + call, one.reason(true), 0);
        }
        Check.due("the war behind " + call, look.apply(one), look.apply(other));
    }

    private static void leavesAll(String call, ToIntFunction<KiteWar> made, int code) {
        Check.sentence("A call that returns a code leaves everything unchanged");
        alike(call, made, code, CodesEdgesTest::picture);
        alike(call, made, code, war -> undone(war, 1));
        alike(call, made, code, war -> undone(war, 4));
        alike(call, made, code, war -> undone(war, 9));
        alike(call, made, code, CodesEdgesTest::restored);
        alike(call, made, code, CodesEdgesTest::carriedOut);
    }

    private static void changes() {
        leavesAll("tower(2, 20, 1)", war -> war.tower(2, 20, 1), KiteWar.NONE);
        leavesAll("tower(1, 37, 1)", war -> war.tower(1, 37, 1), KiteWar.NONE);
        leavesAll("tower(1, 20, 5)", war -> war.tower(1, 20, 5), KiteWar.BAD);
        leavesAll("tower(1, 15, 4)", war -> war.tower(1, 15, 4), KiteWar.REFUSED);
        leavesAll("tower(1, 20, 4)", war -> war.tower(1, 20, 4), KiteWar.REFUSED);
        leavesAll("kite(6, 5)", war -> war.kite(6, 5), KiteWar.NONE);
        leavesAll("kite(3, 10)", war -> war.kite(3, 10), KiteWar.BAD);
        leavesAll("kite(0, 5)", war -> war.kite(0, 5), KiteWar.REFUSED);
        leavesAll("wind(6, 0)", war -> war.wind(6, 0), KiteWar.BAD);
        leavesAll("wind(0, 4)", war -> war.wind(0, 4), KiteWar.BAD);
        leavesAll("wind(0, 3)", war -> war.wind(0, 3), KiteWar.REFUSED);
    }

    private static void slipsAndTurns() {
        leavesAll("slip(5, 1, 0)", war -> war.slip(5, 1, 0), KiteWar.NONE);
        leavesAll("slip(3, 7, 0)", war -> war.slip(3, 7, 0), KiteWar.BAD);
        leavesAll("slip(3, 1, 6)", war -> war.slip(3, 1, 6), KiteWar.BAD);
        leavesAll("slip(3, 2, 0)", war -> war.slip(3, 2, 0), KiteWar.REFUSED);
        leavesAll("slip(1, 2, 0)", war -> war.slip(1, 2, 0), KiteWar.REFUSED);
        leavesAll("tear(5)", war -> war.tear(5), KiteWar.NONE);
        leavesAll("tear(0)", war -> war.tear(0), KiteWar.REFUSED);
        leavesAll("seen(2, 3)", war -> war.seen(2, 3), KiteWar.NONE);
        leavesAll("seen(1, 3)", war -> war.seen(1, 3), KiteWar.REFUSED);
        leavesAll("seen(0, 0)", war -> war.seen(0, 0), KiteWar.REFUSED);
        leavesAll("turn(0)", war -> war.turn(0), KiteWar.BAD);
        leavesAll("turn(10)", war -> war.turn(10), KiteWar.BAD);
    }

    private static void questions() {
        leavesAll("beside(37, 0)", war -> war.beside(37, 0), KiteWar.NONE);
        leavesAll("beside(0, 3)", war -> war.beside(0, 3), KiteWar.NOTHING);
        leavesAll("apart(0, 37)", war -> war.apart(0, 37), KiteWar.NONE);
        leavesAll("apartAgain(0, 37)", war -> war.apartAgain(0, 37), KiteWar.NONE);
        leavesAll("towerOf(0, 6)", war -> war.towerOf(0, 6), KiteWar.BAD);
        leavesAll("kiteOf(0, 9)", war -> war.kiteOf(0, 9), KiteWar.BAD);
        leavesAll("driftsTo(1, 10)", war -> war.driftsTo(1, 10), KiteWar.BAD);
        leavesAll("driftsTo(3, 1)", war -> war.driftsTo(3, 1), KiteWar.NOTHING);
        leavesAll("bestDirection(6)", war -> war.bestDirection(6), KiteWar.NONE);
        leavesAll("nearest(0, 37)", war -> war.nearest(0, 37), KiteWar.NONE);
        leavesAll("append(31)", war -> war.append(31), KiteWar.BAD);
        leavesAll("tell(7)", war -> war.tell(7), KiteWar.NONE);
        leavesAll("tellKite(5)", war -> war.tellKite(5), KiteWar.NONE);
        leavesAll("character(99)", war -> war.character(99), KiteWar.NONE);
        leavesAll("account(18)", war -> war.account(18), KiteWar.BAD);
    }

    private static void ruledOut(String call, String text, int code) {
        Check.sentence("A call that returns a code leaves everything unchanged, except that run empties the text");
        ToIntFunction<KiteWar> made = war -> {
            war.run();
            Check.write(war, text);
            int answer = war.run();
            Check.due("account(16) behind " + call, war.account(16), 0);
            return answer;
        };
        for (int changes : new int[] {0, 1, 5, 9}) {
            KiteWar one = full();
            KiteWar other = full();
            Check.due(call, made.applyAsInt(one), code);
            other.run();
            Check.due("the war behind " + call, undone(one, changes), undone(other, changes));
        }
    }

    private static void runs() {
        ruledOut("run(), wrong at once", "x", -1000);
        ruledOut("run(), wrong late", "turn 5;3 out;x", -1013);
        ruledOut("run(), too short", "turn 5;", -1007);
        ruledOut("run(), refused at once", "1 out", KiteWar.REFUSED);
        ruledOut("run(), refused late", "turn 5;3 in;turn 1;turn 9;wind 0*1", KiteWar.REFUSED);
    }

    private static void fullText() {
        Check.sentence("A call that returns a code leaves everything unchanged");
        KiteWar war = new KiteWar();
        Check.write(war, "turn 1;turn 1;turn 1;turn 1;turn 1;turn 1;turn 1;turn 1;turn");
        Check.due("append(' ')", war.append(' '), KiteWar.FULL);
        Check.due("account(16)", war.account(16), 60);
        Check.due("run()", war.run(), -1060);
    }

    private static void nothingToUndoOrRestore() {
        Check.sentence("A call that returns a code leaves everything unchanged");
        KiteWar war = new KiteWar();
        war.save();
        Check.due("undo()", war.undo(), KiteWar.NOTHING);
        Check.due("restore()", war.restore(), 0);
        KiteWar other = Check.alone(0, 18, 4, 5);
        Check.due("restore()", other.restore(), KiteWar.NOTHING);
        Check.due("account(17)", other.account(17), 2);
        Check.numbersOfKite(other, 0, 0, 0, 0, KiteWar.NOTHING, 0, 18, 5, 0, 0);
    }

    private static void firstOfTheCodes() {
        Check.sentence("If several codes apply, the one that is listed first is returned.");
        KiteWar war = full();
        Check.due("beside(37, 6)", war.beside(37, 6), KiteWar.NONE);
        Check.due("tower(2, 15, 0)", war.tower(2, 15, 0), KiteWar.NONE);
        Check.due("tower(0, 15, 0)", war.tower(0, 15, 0), KiteWar.BAD);
        Check.due("kite(6, 0)", war.kite(6, 0), KiteWar.NONE);
        Check.due("kite(0, 0)", war.kite(0, 0), KiteWar.BAD);
        Check.due("wind(6, 4)", war.wind(6, 4), KiteWar.BAD);
        Check.due("towerOf(6, 6)", war.towerOf(6, 6), KiteWar.NONE);
        Check.due("kiteOf(5, 9)", war.kiteOf(5, 9), KiteWar.NONE);
        Check.due("slip(5, 0, 6)", war.slip(5, 0, 6), KiteWar.NONE);
        Check.due("slip(1, 0, 6)", war.slip(1, 0, 6), KiteWar.BAD);
        Check.due("seen(2, 0)", war.seen(2, 0), KiteWar.NONE);
        Check.due("driftsTo(5, 10)", war.driftsTo(5, 10), KiteWar.NONE);
        Check.due("driftsTo(3, 10)", war.driftsTo(3, 10), KiteWar.BAD);
        Check.due("nearest(2, 37)", war.nearest(2, 37), KiteWar.NONE);
        Check.due("the reason", war.reason(false), 7);
        while (war.account(16) < 60) {
            war.append(' ');
        }
        Check.due("append(31)", war.append(31), KiteWar.BAD);
        Check.due("append(32)", war.append(32), KiteWar.FULL);
    }

    private static void upToTheLastCall() {
        Check.sentence("An object is used for at most 512 calls after it has been made");
        KiteWar war = new KiteWar();
        for (int call = 1; call <= 511; call++) {
            Check.due("turn(9) as the call " + call, war.turn(9), 0);
        }
        Check.due("account(0) as the call 512", war.account(0), 4599);
        KiteWar windy = Check.alone(0, 18, 4, 5);
        windy.slip(0, 1, 0);
        for (int wind = 0; wind < 6; wind++) {
            windy.wind(wind, wind == 0 ? 0 : 1);
        }
        for (int call = 10; call <= 510; call++) {
            windy.turn(9);
        }
        Check.due("windNow(false) as the call 511", windy.windNow(false), 501 * 9 % 6);
        Check.due("kiteOf(0, 6) as the call 512", windy.kiteOf(0, 6), 5);
    }

    private static void manyTexts() {
        Check.sentence("An object is used for at most 512 calls after it has been made");
        KiteWar war = new KiteWar();
        String text = "turn 9;turn 9;turn 9;turn 9;turn 9;turn 9;turn 9;turn 9";
        for (int round = 1; round <= 8; round++) {
            Check.due("run()", Check.carryOut(war, text), 8);
            Check.due("account(0)", war.account(0), 72 * round);
        }
    }

    public static void main(String[] args) {
        changes();
        slipsAndTurns();
        questions();
        runs();
        fullText();
        nothingToUndoOrRestore();
        firstOfTheCodes();
        upToTheLastCall();
        manyTexts();
        Check.end();
    }
}
