/** The edges of the field: the sentences under "Field" and of the promises 1 to 4, each by itself. */
public final class FieldEdgesTest {
    private static final int[] LENGTHS = {4, 5, 6, 7, 6, 5, 4};
    private static final int[] FIRST = {0, 4, 9, 15, 22, 28, 33};
    private static final int[] NO_HEXAGONS = {-1, 37, 38, 64, -64, Integer.MIN_VALUE, Integer.MAX_VALUE};
    private static final int[] NO_DIRECTIONS = {-1, 6, 7, Integer.MIN_VALUE, Integer.MAX_VALUE};
    private static final int[] ALL = {0, 1, 2, 3, 4, 5};

    private static void beside(int hexagon, int direction, int due) {
        Check.due("beside(" + hexagon + ", " + direction + ")", new KiteWar().beside(hexagon, direction), due);
    }

    private static int last(int row) {
        return FIRST[row] + LENGTHS[row] - 1;
    }

    private static void newObject() {
        Check.sentence("Creates a field without towers, kites and winds.");
        KiteWar war = new KiteWar();
        Check.accounts(war, 0, 0, 0, 0, 0, 0, 0, 0, 0, 0, 0, 0, 0, 0, 0, 0, 0, 0);
        Check.due("towerOf(0, 0)", war.towerOf(0, 0), KiteWar.NONE);
        Check.due("kiteOf(0, 0)", war.kiteOf(0, 0), KiteWar.NONE);
        Check.due("windNow(true)", war.windNow(true), KiteWar.NOTHING);
        Check.due("windNow(false)", war.windNow(false), KiteWar.NOTHING);
        for (int row = 0; row < 7; row++) {
            Check.due("row " + row, Check.row(war, row), ". . . . . . .".substring(0, 2 * LENGTHS[row] - 1));
        }
    }

    private static void otherObjects() {
        Check.sentence("Creates a field without towers, kites and winds.");
        KiteWar one = Check.alone(1, 18, 4, 5);
        one.wind(2, 3);
        KiteWar other = new KiteWar();
        Check.accounts(other, 0, 0, 0, 0, 0, 0, 0, 0, 0, 0, 0, 0, 0, 0, 0, 0, 0, 0);
        other.tower(0, 0, 1);
        Check.numbersOfTower(one, 0, 1, 18, 4, 1, 0, 0);
    }

    private static void hexagons() {
        Check.sentence("The field has 37 hexagons");
        beside(0, 0, 1);
        beside(36, 3, 35);
        for (int number : NO_HEXAGONS) {
            beside(number, 0, KiteWar.NONE);
            Check.due("tower(0, " + number + ", 1)", new KiteWar().tower(0, number, 1), KiteWar.NONE);
        }
    }

    private static void rows() {
        Check.sentence("in 7 rows, 0 to 6, of 4, 5, 6, 7, 6, 5 and 4");
        KiteWar war = new KiteWar();
        for (int row = 0; row < 7; row++) {
            Check.due("tell(" + row + ")", war.tell(row), 2 * LENGTHS[row] - 1);
        }
        Check.due("tell(-1)", war.tell(-1), KiteWar.NONE);
        Check.due("tell(7)", war.tell(7), KiteWar.NONE);
    }

    private static void numbers() {
        Check.sentence("numbered from 0 row by row, from left to right");
        for (int row = 0; row < 7; row++) {
            for (int place = 0; place < LENGTHS[row]; place++) {
                KiteWar war = new KiteWar();
                war.tower(0, FIRST[row] + place, 1);
                Check.due("where the tower is in the row " + row, Check.row(war, row).indexOf('A'), 2 * place);
            }
        }
    }

    private static void directions() {
        Check.sentence("The directions are 0 right, 1 up and right, 2 up and left, 3 left, 4 down and left, "
                + "and 5 down and right.");
        int[] around = {19, 12, 11, 17, 24, 25};
        for (int direction : ALL) {
            beside(18, direction, around[direction]);
        }
        for (int direction : NO_DIRECTIONS) {
            beside(18, direction, KiteWar.BAD);
        }
    }

    private static void rightAndLeft() {
        Check.sentence("Right and left lead to the next place of the row.");
        for (int row = 0; row < 7; row++) {
            for (int hexagon = FIRST[row]; hexagon <= last(row); hexagon++) {
                beside(hexagon, 0, hexagon == last(row) ? KiteWar.NOTHING : hexagon + 1);
                beside(hexagon, 3, hexagon == FIRST[row] ? KiteWar.NOTHING : hexagon - 1);
            }
        }
    }

    private static void toLongerRows(int row, int next, int left, int right) {
        for (int place = 0; place < LENGTHS[row]; place++) {
            beside(FIRST[row] + place, left, FIRST[next] + place);
            beside(FIRST[row] + place, right, FIRST[next] + place + 1);
        }
    }

    private static void longerRows() {
        Check.sentence("A step from a row to a longer one leads to the place with the same number in the row "
                + "if it goes left, and to the next number if it goes right");
        for (int row = 0; row < 3; row++) {
            toLongerRows(row, row + 1, 4, 5);
            toLongerRows(6 - row, 5 - row, 2, 1);
        }
    }

    private static void toShorterRows(int row, int next, int left, int right) {
        for (int place = 0; place < LENGTHS[row]; place++) {
            boolean isFirst = place == 0;
            boolean isLast = place == LENGTHS[row] - 1;
            beside(FIRST[row] + place, left, isFirst ? KiteWar.NOTHING : FIRST[next] + place - 1);
            beside(FIRST[row] + place, right, isLast ? KiteWar.NOTHING : FIRST[next] + place);
        }
    }

    private static void shorterRows() {
        Check.sentence("from a row to a shorter one it leads to the number that is 1 less if it goes left, "
                + "and to the same number if it goes right");
        for (int row = 3; row < 6; row++) {
            toShorterRows(row, row + 1, 4, 5);
            toShorterRows(6 - row, 5 - row, 2, 1);
        }
    }

    private static void noPlace() {
        Check.sentence("What is no place is out of the field.");
        for (int place = 0; place < 4; place++) {
            beside(place, 1, KiteWar.NOTHING);
            beside(place, 2, KiteWar.NOTHING);
            beside(33 + place, 4, KiteWar.NOTHING);
            beside(33 + place, 5, KiteWar.NOTHING);
        }
    }

    private static void upAndDown() {
        Check.sentence("Up leads to the row whose number is 1 less, down to that whose number is 1 more.");
        beside(4, 1, 0);
        beside(0, 5, 5);
        beside(33, 1, 29);
        beside(32, 4, 36);
    }

    private static void codesOfBeside() {
        Check.sentence("NONE if there is no such hexagon; BAD if there is no such direction; NOTHING out of the field.");
        for (int number : NO_HEXAGONS) {
            for (int direction : NO_DIRECTIONS) {
                beside(number, direction, KiteWar.NONE);
                beside(0, direction, KiteWar.BAD);
                beside(36, direction, KiteWar.BAD);
            }
        }
        beside(0, 3, KiteWar.NOTHING);
        beside(36, 0, KiteWar.NOTHING);
    }

    private static void both(int one, int other, int due) {
        KiteWar war = new KiteWar();
        Check.due("apart(" + one + ", " + other + ")", war.apart(one, other), due);
        Check.due("apartAgain(" + one + ", " + other + ")", war.apartAgain(one, other), due);
    }

    private static void nearAndFar() {
        Check.sentence("Returns how many steps two hexagons are apart at least");
        KiteWar war = new KiteWar();
        for (int hexagon = 0; hexagon < 37; hexagon++) {
            both(hexagon, hexagon, 0);
            for (int direction : ALL) {
                if (war.beside(hexagon, direction) >= 0) {
                    both(hexagon, war.beside(hexagon, direction), 1);
                }
            }
        }
        int[] corners = {0, 3, 21, 36, 33, 15};
        for (int corner = 0; corner < 6; corner++) {
            both(corners[corner], 18, 3);
            both(corners[corner], corners[(corner + 1) % 6], 3);
            both(corners[corner], corners[(corner + 2) % 6], 6);
            both(corners[corner], corners[(corner + 3) % 6], 6);
        }
        both(0, 36, 6);
        both(3, 4, 4);
        both(4, 3, 4);
    }

    private static void noHexagonsApart() {
        Check.sentence("Returns how many; NONE if there is no such hexagon.");
        for (int number : NO_HEXAGONS) {
            both(number, 0, KiteWar.NONE);
            both(36, number, KiteWar.NONE);
            both(number, number, KiteWar.NONE);
        }
    }

    public static void main(String[] args) {
        newObject();
        otherObjects();
        hexagons();
        rows();
        numbers();
        directions();
        rightAndLeft();
        longerRows();
        shorterRows();
        noPlace();
        upAndDown();
        codesOfBeside();
        nearAndFar();
        noHexagonsApart();
        Check.end();
    }
}
