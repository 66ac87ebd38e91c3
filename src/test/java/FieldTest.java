/** Promises 1 to 4: a new object and the field. */
public final class FieldTest {
    private static final int[] LENGTHS = {4, 5, 6, 7, 6, 5, 4};
    /** Where the hexagons are drawn: a step right goes 2 to the right, a step into another row 1. */
    private static final int[] DRAWN_ALONG = {2, 1, -1, -2, -1, 1};
    private static final int[] DRAWN_DOWN = {0, -1, -1, 0, 1, 1};

    private static int drawnRow(int hexagon) {
        int row = 0;
        int left = hexagon;
        while (left >= LENGTHS[row]) {
            left -= LENGTHS[row];
            row++;
        }
        return row;
    }

    private static int drawnAcross(int hexagon) {
        int row = drawnRow(hexagon);
        int left = hexagon;
        for (int above = 0; above < row; above++) {
            left -= LENGTHS[above];
        }
        return 7 - LENGTHS[row] + 2 * left;
    }

    private static int hexagonDrawnAt(int row, int across) {
        for (int hexagon = 0; hexagon < 37; hexagon++) {
            if (drawnRow(hexagon) == row && drawnAcross(hexagon) == across) {
                return hexagon;
            }
        }
        return KiteWar.NOTHING;
    }

    private static void newObject() {
        KiteWar war = new KiteWar();
        for (int what = 0; what <= 17; what++) {
            Check.due("account(" + what + ") of a new object", war.account(what), 0);
        }
        Check.due("isBalanced()", war.isBalanced(), 1);
        Check.due("towerOf(0, 0)", war.towerOf(0, 0), KiteWar.NONE);
        Check.due("kiteOf(0, 0)", war.kiteOf(0, 0), KiteWar.NONE);
        Check.due("windNow(true)", war.windNow(true), KiteWar.NOTHING);
        Check.due("character(0)", war.character(0), KiteWar.NONE);
        Check.due("tell(3)", Check.row(war, 3), ". . . . . . .");
    }

    private static void besideEachOther() {
        KiteWar war = new KiteWar();
        for (int hexagon = 0; hexagon < 37; hexagon++) {
            for (int direction = 0; direction < 6; direction++) {
                int row = drawnRow(hexagon) + DRAWN_DOWN[direction];
                int across = drawnAcross(hexagon) + DRAWN_ALONG[direction];
                Check.due("beside(" + hexagon + ", " + direction + ")",
                        war.beside(hexagon, direction), hexagonDrawnAt(row, across));
            }
        }
        int[] outside = {-1, 37, 38, Integer.MIN_VALUE, Integer.MAX_VALUE};
        for (int number : outside) {
            Check.due("beside(" + number + ", 0)", war.beside(number, 0), KiteWar.NONE);
            Check.due("beside(" + number + ", 6)", war.beside(number, 6), KiteWar.NONE);
        }
        Check.due("beside(36, 6)", war.beside(36, 6), KiteWar.BAD);
        Check.due("beside(0, -1)", war.beside(0, -1), KiteWar.BAD);
        Check.due("beside(0, max)", war.beside(0, Integer.MAX_VALUE), KiteWar.BAD);
    }

    private static void distances() {
        for (int one = 0; one < 37; one++) {
            KiteWar war = new KiteWar();
            for (int other = 0; other < 37; other++) {
                int down = Math.abs(drawnRow(one) - drawnRow(other));
                int across = Math.abs(drawnAcross(one) - drawnAcross(other));
                int due = down + Math.max(0, (across - down) / 2);
                Check.due("apart(" + one + ", " + other + ")", war.apart(one, other), due);
                Check.due("apartAgain(" + one + ", " + other + ")", war.apartAgain(one, other), due);
            }
        }
        KiteWar war = new KiteWar();
        int[] outside = {-1, 37, Integer.MIN_VALUE, Integer.MAX_VALUE};
        for (int number : outside) {
            Check.due("apart(" + number + ", 0)", war.apart(number, 0), KiteWar.NONE);
            Check.due("apart(0, " + number + ")", war.apart(0, number), KiteWar.NONE);
            Check.due("apartAgain(" + number + ", 0)", war.apartAgain(number, 0), KiteWar.NONE);
            Check.due("apartAgain(0, " + number + ")", war.apartAgain(0, number), KiteWar.NONE);
        }
    }

    public static void main(String[] args) {
        newObject();
        besideEachOther();
        distances();
        Check.end();
    }
}
