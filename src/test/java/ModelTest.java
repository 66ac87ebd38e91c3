import java.util.Random;

/** All promises: runs of calls, always the same ones, answered as the model answers them. */
public final class ModelTest {
    private static final int RUNS = 12000;
    /** An object is used for at most 512 calls, of which the last ones ask for all that there is. */
    private static final int MOST_CALLS = 512;
    private static final int LAST_CALLS = 270;
    /** No step makes more calls: a text of 60 characters, one more, and what is done with it. */
    private static final int CALLS_OF_A_STEP = 70;
    private static final String[] PIECES = {"0 ", "1 ", "2 ", "3 ", "5 ", "7 ", "fly ", "out", "in",
        "left", "right", "land", "wind ", "turn ", "*", ";", ";", "0", "1", "2", "3", "5", "x", "l"};
    private static final int[] EDGES = 
        {-1, 0, 1, 2, 3, 4, 5, 6, 7, 8, 9, 10, 11, 12, 18, 36, 37, Integer.MAX_VALUE, Integer.MIN_VALUE};

    private final Random random;
    private final KiteWar war = new KiteWar();
    private final Model model = new Model();
    private final String name;
    private int calls = 0;

    private ModelTest(int run) {
        random = new Random(run);
        name = "run " + run + ": ";
    }

    private void due(String call, double got, double want) {
        calls++;
        Check.due(name + call, got, want);
    }

    /** A number below the bound, seldom one that is likely out of range. */
    private int number(int bound) {
        return random.nextInt(30) == 0 ? EDGES[random.nextInt(EDGES.length)] : random.nextInt(bound);
    }

    private String order() {
        int kite = random.nextInt(8);
        switch (random.nextInt(10)) {
            case 0:
                return "wind " + random.nextInt(6) + "*" + random.nextInt(4);
            case 1:
            case 2:
                return "turn " + (1 + random.nextInt(2));
            case 3:
            case 4:
            case 5:
                return kite + " fly " + random.nextInt(6);
            default:
                return kite + " " + PIECES[7 + random.nextInt(5)];
        }
    }

    private String text() {
        StringBuilder text = new StringBuilder();
        int kind = random.nextInt(3);
        int parts = 1 + random.nextInt(4);
        for (int part = 0; part < parts; part++) {
            text.append(part > 0 && kind > 0 ? ";" : "");
            text.append(kind == 0 ? PIECES[random.nextInt(PIECES.length)] : order());
        }
        if (kind == 1) {
            text.setLength(random.nextInt(text.length() + 1));
        }
        return text.toString();
    }

    private void append(int code) {
        due("append(" + code + ")", war.append(code), model.append(code));
    }

    private void fill() {
        for (int length = model.account(16); length <= 60; length++) {
            append(length % 7 == 6 ? ';' : "turn 1".charAt(length % 7));
        }
    }

    /** Six towers in the middle of the field, and all the kites that they can have, which fly in the next turn. */
    private void crowd(int strongest) {
        for (int tower = 0; tower < 6; tower++) {
            int hexagon = 9 + random.nextInt(19);
            int reach = 1 + random.nextInt(4);
            due("tower", war.tower(tower % 2, hexagon, reach), model.tower(tower % 2, hexagon, reach));
        }
        for (int kite = 0; kite < 12; kite++) {
            int strength = 1 + random.nextInt(strongest);
            due("kite", war.kite(kite / 2, strength), model.kite(kite / 2, strength));
            int direction = random.nextInt(6);
            due("slip", war.slip(kite, 1, direction), model.slip(kite, 1, direction));
        }
    }

    private void build() {
        int side = number(2);
        int hexagon = random.nextBoolean() ? 15 + random.nextInt(7) : number(37);
        int reach = number(5);
        due("tower", war.tower(side, hexagon, reach), model.tower(side, hexagon, reach));
    }

    private void bring() {
        int tower = number(6);
        int strength = number(10);
        due("kite", war.kite(tower, strength), model.kite(tower, strength));
    }

    private void blow() {
        int direction = number(6);
        int force = number(4);
        due("wind", war.wind(direction, force), model.wind(direction, force));
    }

    private void write() {
        int kite = number(12);
        int flies = war.kiteOf(kite, 2);
        due("kiteOf(" + kite + ", 2)", flies, model.kiteOf(kite, 2));
        int move = random.nextInt(8) == 0 ? number(7) : flies == 0 ? 1 : 2 + random.nextInt(5);
        int direction = move == 1 || random.nextInt(20) == 0 ? number(6) : 0;
        due("slip", war.slip(kite, move, direction), model.slip(kite, move, direction));
    }

    private void change() {
        switch (random.nextInt(20)) {
            case 0:
                build();
                break;
            case 1:
            case 2:
                bring();
                break;
            case 3:
                blow();
                break;
            case 4:
                int torn = number(12);
                due("tear", war.tear(torn), model.tear(torn));
                break;
            case 5:
            case 6:
            case 7:
            case 8:
                int turns = random.nextInt(12) == 0 ? number(10) : 1;
                due("turn", war.turn(turns), model.turn(turns));
                break;
            case 9:
                for (char code : text().toCharArray()) {
                    append(code);
                }
                due("run", war.run(), model.run());
                break;
            case 10:
                goBack();
                break;
            default:
                write();
        }
    }

    private void goBack() {
        switch (random.nextInt(6)) {
            case 0:
                due("save", war.save(), model.save());
                break;
            case 1:
                due("restore", war.restore(), model.restore());
                break;
            default:
                due("undo", war.undo(), model.undo());
        }
    }

    private void ask() {
        int one = number(37);
        int other = number(12);
        int what = number(20);
        switch (random.nextInt(16)) {
            case 14:
                due("crossings", war.crossings(), model.crossings());
                break;
            case 15:
                due("crossingsAgain", war.crossingsAgain(), model.crossings());
                break;
            case 0:
                due("beside", war.beside(one, what), model.beside(one, what));
                break;
            case 1:
                due("apart", war.apart(one, what), model.apart(one, what));
                due("apartAgain", war.apartAgain(one, what), model.apart(one, what));
                break;
            case 2:
                due("windNow", war.windNow(what > 9), model.windNow(what > 9));
                break;
            case 3:
                due("towerOf", war.towerOf(other, what), model.towerOf(other, what));
                break;
            case 4:
                due("kiteOf", war.kiteOf(other, what), model.kiteOf(other, what));
                break;
            case 5:
                due("seen", war.seen(what % 2, other), model.seen(what % 2, other));
                break;
            case 6:
                due("driftsTo", war.driftsTo(other, what), model.driftsTo(other, what));
                break;
            case 7:
                due("bestDirection", war.bestDirection(other), model.bestDirection(other));
                break;
            case 8:
                due("nearest", war.nearest(what % 2, one), model.nearest(what % 2, one));
                break;
            case 9:
                due("tell", war.tell(other), model.tell(other));
                break;
            case 10:
                due("tellKite", war.tellKite(other), model.tellKite(other));
                break;
            case 11:
                if (random.nextInt(8) == 0) {
                    fill();
                }
                append(number(140));
                break;
            case 12:
                due("account", war.account(what), model.account(what));
                break;
            default:
                due("character", war.character(what), model.character(what));
        }
    }

    private void compareKites() {
        for (int kite = 0; kite < 12; kite++) {
            for (int what = 0; what < 9; what++) {
                String call = "kiteOf(" + kite + ", " + what + ")";
                due(call, war.kiteOf(kite, what), model.kiteOf(kite, what));
            }
            due("seen(0, " + kite + ")", war.seen(0, kite), model.seen(0, kite));
            due("seen(1, " + kite + ")", war.seen(1, kite), model.seen(1, kite));
            int turns = random.nextInt(10);
            due("driftsTo", war.driftsTo(kite, turns), model.driftsTo(kite, turns));
        }
    }

    private void compareAll() {
        for (int what = 0; what < 18; what++) {
            due("account(" + what + ")", war.account(what), model.account(what));
        }
        due("reason(false)", war.reason(false), model.reason(false));
        due("reason(true)", war.reason(true), model.reason(true));
        due("windNow(true)", war.windNow(true), model.windNow(true));
        due("windNow(false)", war.windNow(false), model.windNow(false));
        due("crossingsAgain()", war.crossingsAgain(), model.crossings());
        due("tell(3)", war.tell(3), model.tell(3));
        due("crossings()", war.crossings(), model.crossings());
        due("isBalanced()", war.isBalanced(), 1);
        due("meanStrength()", war.meanStrength(), model.meanStrength());
        due("lostShare()", war.lostShare(), model.lostShare());
        for (int tower = 0; tower < 6; tower++) {
            for (int what = 0; what < 6; what++) {
                due("towerOf", war.towerOf(tower, what), model.towerOf(tower, what));
            }
            due("bestDirection", war.bestDirection(tower), model.bestDirection(tower));
        }
        compareKites();
    }

    private void compareLines() {
        int row = random.nextInt(7);
        due("tell(" + row + ")", war.tell(row), model.tell(row));
        compareLine();
        int kite = random.nextInt(12);
        due("tellKite(" + kite + ")", war.tellKite(kite), model.tellKite(kite));
        compareLine();
    }

    private void compareLine() {
        for (int index = 0; index <= 24; index++) {
            due("character(" + index + ")", war.character(index), model.character(index));
        }
    }

    private void play() {
        int kind = random.nextInt(3);
        if (kind > 0) {
            crowd(kind == 1 ? 9 : 3);
        }
        for (int tower = 0; tower < 4 && kind == 0; tower++) {
            build();
            bring();
        }
        int most = MOST_CALLS - LAST_CALLS - CALLS_OF_A_STEP;
        int steps = 40 + random.nextInt(most - 40);
        while (calls < steps) {
            if (random.nextInt(4) == 0) {
                ask();
            } else {
                change();
            }
        }
        compareAll();
        compareLines();
        Check.due(name + "whether there were too many calls", calls > MOST_CALLS ? 1 : 0, 0);
    }

    public static void main(String[] args) {
        for (int run = 0; run < RUNS; run++) {
            new ModelTest(run).play();
        }
        Check.end();
    }
}
