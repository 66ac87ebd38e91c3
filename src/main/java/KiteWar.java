/** A war of kites over a field of hexagons; ../shared/DOC.md says what each call answers. */
public final class KiteWar {
    public static final int NONE = -11;
    public static final int BAD = -12;
    public static final int FULL = -13;
    public static final int REFUSED = -14;
    public static final int NOTHING = -15;

    private static final int DIRECTIONS = 6;
    private static final int TOWERS_OF_A_SIDE = 3;
    private static final int KITES_OF_A_TOWER = 2;
    private static final int MOST_TOWERS = 6;
    private static final int MOST_KITES = 12;
    private static final int MOST_WINDS = 6;
    private static final int MOST_REACH = 4;
    private static final int MOST_STRENGTH = 9;
    private static final int MOST_FORCE = 3;
    private static final int MOST_TURNS = 9;
    private static final int MOST_CHARACTERS = 60;
    private static final int MOST_UNDONE = 8;
    private static final int FAULT = -1000;

    private static final int RESTS = 0;
    private static final int FLIES = 1;
    private static final int DRIFTS = 2;
    private static final int IS_LOST = 3;

    private static final int NO_MOVE = 0;
    private static final int FLY = 1;
    private static final int LET_OUT = 2;
    private static final int HAUL_IN = 3;
    private static final int TURN_LEFT = 4;
    private static final int TURN_RIGHT = 5;
    private static final int LAND = 6;

    private static final int NO_ROOM = 1;
    private static final int TOWER_THERE = 2;
    private static final int NOT_AT_REST = 3;
    private static final int AT_REST = 4;
    private static final int OUT_OF_HAND = 5;
    private static final int OTHER_SIDE = 6;
    private static final int NO_SLIP = 7;
    private static final int ORDER_FAILS = 8;

    private final State now;
    private final State before;
    private final State saved;
    private boolean hasSaved;
    private final History history;
    private final Umpire umpire;
    private final Lines lines;
    private final Orders orders;
    private final StringBuilder line;
    private int latestReason;
    private int latestDetail;

    public KiteWar() {
        now = new State();
        before = new State();
        saved = new State();
        hasSaved = false;
        history = new History();
        lines = new Lines();
        umpire = new Umpire();
        orders = new Orders();
        line = new StringBuilder();
        latestReason = NOTHING;
        latestDetail = NOTHING;
    }

    // ---- the field

    public int beside(int hexagon, int direction) {
        if (!Field.has(hexagon)) {
            return NONE;
        }
        if (!isDirection(direction)) {
            return BAD;
        }
        int other = Field.walk(hexagon, direction, 1);
        return other == Field.OUT ? NOTHING : other;
    }

    public int apart(int one, int other) {
        if (!Field.has(one) || !Field.has(other)) {
            return NONE;
        }
        return Field.distance(one, other);
    }

    public int apartAgain(int one, int other) {
        if (!Field.has(one) || !Field.has(other)) {
            return NONE;
        }
        return Field.stepsByNeighbours(one, other);
    }

    // ---- towers, kites, winds

    public int tower(int side, int hexagon, int reach) {
        before.copyFrom(now);
        return settled(buildTower(side, hexagon, reach));
    }

    public int kite(int tower, int strength) {
        before.copyFrom(now);
        return settled(bringKite(tower, strength));
    }

    public int wind(int direction, int force) {
        before.copyFrom(now);
        return settled(tellWind(direction, force));
    }

    public int windNow(boolean isForce) {
        if (now.windCount == 0) {
            return NOTHING;
        }
        return isForce ? now.forceAt(now.turnNumber) : now.directionAt(now.turnNumber);
    }

    public int towerOf(int tower, int what) {
        if (!isTower(tower)) {
            return NONE;
        }
        Tower asked = now.towers[tower];
        switch (what) {
            case 0:
                return asked.side;
            case 1:
                return asked.hexagon;
            case 2:
                return asked.reach;
            case 3:
                return now.kitesAt(tower);
            case 4:
                return now.flyingFrom(tower);
            case 5:
                return asked.taken;
            default:
                return BAD;
        }
    }

    public int kiteOf(int kite, int what) {
        if (!isKite(kite)) {
            return NONE;
        }
        Kite asked = now.kites[kite];
        switch (what) {
            case 0:
                return asked.side;
            case 1:
                return asked.tower;
            case 2:
                return asked.how;
            case 3:
                return asked.how == FLIES ? asked.direction : NOTHING;
            case 4:
                return asked.length;
            case 5:
                return asked.how == IS_LOST ? NOTHING : asked.hexagon;
            case 6:
                return asked.strength;
            case 7:
                return asked.cuts;
            case 8:
                return asked.linesCut;
            default:
                return BAD;
        }
    }

    // ---- slips, turns

    public int slip(int kite, int move, int direction) {
        before.copyFrom(now);
        return settled(writeSlip(kite, move, direction));
    }

    public int tear(int kite) {
        before.copyFrom(now);
        return settled(tearSlip(kite));
    }

    public int seen(int side, int kite) {
        if (!isSide(side) || !isKite(kite)) {
            return NONE;
        }
        Kite asked = now.kites[kite];
        if (asked.side != side) {
            return refuse(OTHER_SIDE, kite);
        }
        if (asked.move == NO_MOVE) {
            return refuse(NO_SLIP, kite);
        }
        return asked.move + 10 * asked.moveDirection;
    }

    public int turn(int turns) {
        before.copyFrom(now);
        return settled(passTurns(turns));
    }

    // ---- what there is, and would be

    public int crossings() {
        lines.drawBySlips(now);
        int pairs = 0;
        for (int one = 0; one < now.kiteCount; one++) {
            for (int other = one + 1; other < now.kiteCount; other++) {
                if (lines.doCross(now, one, other)) {
                    pairs++;
                }
            }
        }
        return pairs;
    }

    public int crossingsAgain() {
        lines.drawBySlips(now);
        lines.forgetPairs();
        int pairs = 0;
        for (int hexagon = 0; hexagon < Field.HEXAGONS; hexagon++) {
            pairs += lines.newPairsIn(now, hexagon);
        }
        return pairs;
    }

    public int driftsTo(int kite, int turns) {
        if (!isKite(kite)) {
            return NONE;
        }
        if (turns < 0 || turns > MOST_TURNS) {
            return BAD;
        }
        Kite asked = now.kites[kite];
        if (asked.how != DRIFTS) {
            return NOTHING;
        }
        int hexagon = asked.hexagon;
        for (int ahead = 0; ahead < turns; ahead++) {
            int then = now.turnNumber + ahead;
            hexagon = Field.walk(hexagon, now.directionAt(then), now.forceAt(then));
        }
        return hexagon == Field.OUT ? NOTHING : hexagon;
    }

    public int bestDirection(int tower) {
        if (!isTower(tower)) {
            return NONE;
        }
        lines.drawAsTheyAre(now);
        Tower asked = now.towers[tower];
        int best = 0;
        int bestLength = -1;
        int bestLines = 0;
        for (int direction = 0; direction < DIRECTIONS; direction++) {
            int length = longestLine(asked, direction);
            int others = linesOfOthersOn(asked, direction, length);
            if (length > bestLength || length == bestLength && others < bestLines) {
                best = direction;
                bestLength = length;
                bestLines = others;
            }
        }
        return best;
    }

    public int nearest(int side, int hexagon) {
        if (!isSide(side) || !Field.has(hexagon)) {
            return NONE;
        }
        int best = NOTHING;
        int bestDistance = Field.HEXAGONS;
        for (int tower = 0; tower < now.towerCount; tower++) {
            Tower candidate = now.towers[tower];
            int distance = Field.distance(candidate.hexagon, hexagon);
            if (candidate.side == side && distance < bestDistance) {
                best = tower;
                bestDistance = distance;
            }
        }
        return best;
    }

    // ---- texts, lines

    public int append(int code) {
        if (code < 32 || code > 126) {
            return BAD;
        }
        if (orders.text.length() >= MOST_CHARACTERS) {
            return FULL;
        }
        orders.text.append((char) code);
        return orders.text.length();
    }

    public int run() {
        orders.readAll();
        orders.text.setLength(0);
        if (orders.isWrong) {
            return FAULT - orders.at;
        }
        before.copyFrom(now);
        for (int order = 0; order < orders.count; order++) {
            if (carryOut(orders.all[order]) < 0) {
                now.copyFrom(before);
                return refuse(ORDER_FAILS, order);
            }
        }
        return settled(orders.count);
    }

    public int tell(int row) {
        if (row < 0 || row >= Field.ROWS) {
            return NONE;
        }
        lines.drawAsTheyAre(now);
        line.setLength(0);
        int first = Field.START[row];
        for (int hexagon = first; hexagon < Field.START[row + 1]; hexagon++) {
            if (hexagon > first) {
                line.append(' ');
            }
            writeSign(hexagon);
        }
        return line.length();
    }

    public int tellKite(int kite) {
        if (!isKite(kite)) {
            return NONE;
        }
        Kite asked = now.kites[kite];
        line.setLength(0);
        line.append('k');
        line.append(kite);
        writeHow(asked);
        if (asked.how != IS_LOST) {
            line.append(" s");
            line.append(asked.strength);
        }
        return line.length();
    }

    public int character(int index) {
        if (index < 0 || index >= line.length()) {
            return NONE;
        }
        return line.charAt(index);
    }

    // ---- reasons, accounts, undo and the snapshot

    public int reason(boolean isDetail) {
        return isDetail ? latestDetail : latestReason;
    }

    public int account(int what) {
        switch (what) {
            case 0:
                return now.turnNumber;
            case 1:
                return now.towerCount;
            case 2:
                return now.kiteCount;
            case 3:
                return now.kitesThat(RESTS);
            case 4:
                return now.kitesThat(FLIES);
            case 5:
                return now.kitesThat(DRIFTS);
            case 6:
                return now.kitesThat(IS_LOST);
            case 7:
                return now.slipsOf(0) + now.slipsOf(1);
            case 8:
                return now.windCount;
            case 9:
                return now.points[0];
            case 10:
                return now.points[1];
            case 11:
                return now.cuts;
            case 12:
                return now.strainCuts;
            case 13:
                return now.takenByOwn;
            case 14:
                return now.takenByOther;
            case 15:
                return now.movesNotDone;
            case 16:
                return orders.text.length();
            case 17:
                return history.count;
            default:
                return BAD;
        }
    }

    public int isBalanced() {
        for (int kite = 0; kite < now.kiteCount; kite++) {
            if (!isSound(now.kites[kite])) {
                return 0;
            }
        }
        int lostOtherwise = now.kitesThat(IS_LOST) - now.takenByOther;
        int taken = now.takenByOwn + now.takenByOther;
        return now.cuts == now.kitesThat(DRIFTS) + taken + lostOtherwise ? 1 : 0;
    }

    public double meanStrength() {
        int sum = 0;
        int number = 0;
        for (int kite = 0; kite < now.kiteCount; kite++) {
            if (now.kites[kite].how != IS_LOST) {
                sum += now.kites[kite].strength;
                number++;
            }
        }
        return number == 0 ? 0.0 : (double) sum / (double) number;
    }

    public float lostShare() {
        if (now.kiteCount == 0) {
            return 0.0f;
        }
        return (float) now.kitesThat(IS_LOST) / (float) now.kiteCount;
    }

    public int undo() {
        if (history.count == 0) {
            return NOTHING;
        }
        history.takeBack(now);
        return history.count;
    }

    public int save() {
        saved.copyFrom(now);
        hasSaved = true;
        return now.kiteCount;
    }

    public int restore() {
        if (!hasSaved) {
            return NOTHING;
        }
        now.copyFrom(saved);
        history.forget();
        return now.kiteCount;
    }

    // ---- what is a number of something

    private static boolean isSide(int side) {
        return side == 0 || side == 1;
    }

    private static boolean isDirection(int direction) {
        return direction >= 0 && direction < DIRECTIONS;
    }

    private boolean isTower(int tower) {
        return tower >= 0 && tower < now.towerCount;
    }

    private boolean isKite(int kite) {
        return kite >= 0 && kite < now.kiteCount;
    }

    // ---- changes, which leave it to their callers to make them undoable

    /** Codes are negative, and all answers of changes are not. */
    private int settled(int answer) {
        if (answer >= 0) {
            history.add(before);
        }
        return answer;
    }

    private int refuse(int reason, int detail) {
        latestReason = reason;
        latestDetail = detail;
        return REFUSED;
    }

    private int buildTower(int side, int hexagon, int reach) {
        if (!isSide(side) || !Field.has(hexagon)) {
            return NONE;
        }
        if (reach < 1 || reach > MOST_REACH) {
            return BAD;
        }
        int there = now.towerIn(hexagon);
        if (there >= 0) {
            return refuse(TOWER_THERE, there);
        }
        if (now.towersOf(side) >= TOWERS_OF_A_SIDE) {
            return refuse(NO_ROOM, TOWERS_OF_A_SIDE);
        }
        return now.addTower(side, hexagon, reach);
    }

    private int bringKite(int tower, int strength) {
        if (!isTower(tower)) {
            return NONE;
        }
        if (strength < 1 || strength > MOST_STRENGTH) {
            return BAD;
        }
        if (now.kitesAt(tower) >= KITES_OF_A_TOWER) {
            return refuse(NO_ROOM, KITES_OF_A_TOWER);
        }
        return now.addKite(tower, strength);
    }

    private int tellWind(int direction, int force) {
        if (!isDirection(direction) || force < 0 || force > MOST_FORCE) {
            return BAD;
        }
        if (now.windCount >= MOST_WINDS) {
            return refuse(NO_ROOM, MOST_WINDS);
        }
        return now.addWind(direction, force);
    }

    private int writeSlip(int kite, int move, int direction) {
        if (!isKite(kite)) {
            return NONE;
        }
        if (!isMove(move, direction)) {
            return BAD;
        }
        Kite asked = now.kites[kite];
        if (asked.how == DRIFTS || asked.how == IS_LOST) {
            return refuse(OUT_OF_HAND, asked.how);
        }
        if (asked.how != RESTS && move == FLY) {
            return refuse(NOT_AT_REST, asked.how);
        }
        if (asked.how == RESTS && move != FLY) {
            return refuse(AT_REST, kite);
        }
        asked.move = move;
        asked.moveDirection = direction;
        return now.slipsOf(asked.side);
    }

    private static boolean isMove(int move, int direction) {
        if (move == FLY) {
            return isDirection(direction);
        }
        return move > FLY && move <= LAND && direction == 0;
    }

    private int tearSlip(int kite) {
        if (!isKite(kite)) {
            return NONE;
        }
        Kite asked = now.kites[kite];
        int move = asked.move;
        if (move == NO_MOVE) {
            return refuse(NO_SLIP, kite);
        }
        asked.forgetSlip();
        return move;
    }

    private int passTurns(int turns) {
        if (turns < 1 || turns > MOST_TURNS) {
            return BAD;
        }
        int cut = 0;
        for (int passed = 0; passed < turns; passed++) {
            cut += umpire.passOne(now);
        }
        return cut;
    }

    private int carryOut(Order order) {
        switch (order.kind) {
            case Order.WIND:
                return tellWind(order.first, order.second);
            case Order.TURNS:
                return passTurns(order.first);
            default:
                return writeSlip(order.first, order.kind, order.second);
        }
    }

    // ---- parts of what is told

    private static int longestLine(Tower tower, int direction) {
        int length = tower.reach;
        while (length > 0 && Field.walk(tower.hexagon, direction, length) == Field.OUT) {
            length--;
        }
        return length;
    }

    private int linesOfOthersOn(Tower tower, int direction, int length) {
        int found = 0;
        for (int step = 1; step <= length; step++) {
            int hexagon = Field.walk(tower.hexagon, direction, step);
            for (int kite = 0; kite < now.kiteCount; kite++) {
                if (now.kites[kite].side != tower.side && lines.doesCover(kite, hexagon)) {
                    found++;
                }
            }
        }
        return found;
    }

    private void writeSign(int hexagon) {
        int tower = now.towerIn(hexagon);
        int kite = now.kiteIn(hexagon);
        if (tower >= 0) {
            line.append(now.towers[tower].side == 0 ? 'A' : 'B');
        } else if (kite >= 0) {
            line.append(kite);
        } else {
            line.append(lines.isCovered(now, hexagon) ? '+' : '.');
        }
    }

    private void writeHow(Kite kite) {
        switch (kite.how) {
            case RESTS:
                line.append(" rest");
                break;
            case FLIES:
                line.append(" flies ");
                line.append(kite.direction);
                line.append('x');
                line.append(kite.length);
                break;
            case DRIFTS:
                line.append(" drifts ");
                line.append(kite.hexagon);
                break;
            default:
                line.append(" lost");
        }
    }

    private static boolean isSound(Kite kite) {
        if (kite.how == FLIES) {
            int end = Field.walk(kite.home, kite.direction, kite.length);
            return kite.length >= 1 && kite.length <= kite.reach && end != Field.OUT && kite.strength >= 0;
        }
        return kite.how != RESTS || kite.strength >= 0;
    }

    /**
     * The hexagons. Beside its row and place a hexagon has a column: the place, counted so that a
     * step down and right stays in the column. In rows and columns all steps of a direction are alike.
     */
    private static final class Field {
        static final int HEXAGONS = 37;
        static final int ROWS = 7;
        static final int OUT = -1;
        static final int[] START = {0, 4, 9, 15, 22, 28, 33, 37};
        private static final int[] ROW = {
            0, 0, 0, 0,
            1, 1, 1, 1, 1,
            2, 2, 2, 2, 2, 2,
            3, 3, 3, 3, 3, 3, 3,
            4, 4, 4, 4, 4, 4,
            5, 5, 5, 5, 5,
            6, 6, 6, 6
        };
        /** How far the place is ahead of the column, by rows. */
        private static final int[] SHIFT = {0, 1, 2, 3, 3, 3, 3};
        private static final int[] ROWS_OF_STEP = {0, -1, -1, 0, 1, 1};
        private static final int[] COLUMNS_OF_STEP = {1, 1, 0, -1, -1, 0};

        static boolean has(int hexagon) {
            return hexagon >= 0 && hexagon < HEXAGONS;
        }

        /** The field has no bays: a straight walk whose end is in it has not left it on the way. */
        static int walk(int hexagon, int direction, int steps) {
            if (hexagon < 0 || hexagon >= HEXAGONS || direction < 0 || direction >= DIRECTIONS) {
                return OUT;
            }
            int from = ROW[hexagon];
            int column = hexagon - START[from] - SHIFT[from] + steps * COLUMNS_OF_STEP[direction];
            int row = from + steps * ROWS_OF_STEP[direction];
            if (row < 0 || row >= ROWS) {
                return OUT;
            }
            int place = column + SHIFT[row];
            int reached = START[row] + place;
            return place < 0 || reached >= START[row + 1] ? OUT : reached;
        }

        static int distance(int one, int other) {
            if (!has(one) || !has(other)) {
                return OUT;
            }
            int oneRow = ROW[one];
            int otherRow = ROW[other];
            int oneColumn = one - START[oneRow] - SHIFT[oneRow];
            int otherColumn = other - START[otherRow] - SHIFT[otherRow];
            int down = otherRow - oneRow;
            int along = otherColumn - oneColumn;
            return Math.max(Math.abs(down + along), Math.max(Math.abs(down), Math.abs(along)));
        }

        static int stepsByNeighbours(int one, int other) {
            if (!has(one) || !has(other)) {
                return OUT;
            }
            long reached = 1L << one;
            int steps = 0;
            while (steps < HEXAGONS && (reached >> other & 1L) == 0L) {
                reached = withNeighbours(reached);
                steps++;
            }
            return steps;
        }

        private static long withNeighbours(long reached) {
            long wider = reached;
            for (int hexagon = 0; hexagon < HEXAGONS; hexagon++) {
                if ((reached >> hexagon & 1L) != 0L) {
                    for (int direction = 0; direction < DIRECTIONS; direction++) {
                        int next = walk(hexagon, direction, 1);
                        wider |= next == OUT ? 0L : 1L << next;
                    }
                }
            }
            return wider;
        }
    }

    private static final class Tower {
        int side;
        int hexagon;
        int reach;
        int taken;

        void copyFrom(Tower other) {
            side = other.side;
            hexagon = other.hexagon;
            reach = other.reach;
            taken = other.taken;
        }
    }

    /** A kite with its slip, and what of its tower never changes; of a lost one the hexagon says nothing. */
    private static final class Kite {
        int side;
        int tower;
        int home;
        int reach;
        int how;
        int direction;
        int length;
        int hexagon;
        int strength;
        int cuts;
        int linesCut;
        int move;
        int moveDirection;

        void copyFrom(Kite other) {
            side = other.side;
            tower = other.tower;
            home = other.home;
            reach = other.reach;
            how = other.how;
            direction = other.direction;
            length = other.length;
            hexagon = other.hexagon;
            strength = other.strength;
            cuts = other.cuts;
            linesCut = other.linesCut;
            move = other.move;
            moveDirection = other.moveDirection;
        }

        void forgetSlip() {
            move = NO_MOVE;
            moveDirection = 0;
        }

        /** Lets the kite fly on a line; with a length of 0 it rests at its tower. */
        void holdAt(int newDirection, int newLength) {
            how = newLength > 0 ? FLIES : RESTS;
            direction = newLength > 0 ? newDirection : 0;
            length = newLength;
            hexagon = Field.walk(home, newDirection, newLength);
        }

        /** The kite stays in its hexagon and keeps its strength. */
        void loseLine() {
            how = DRIFTS;
            direction = 0;
            length = 0;
            cuts++;
        }
    }

    /** All that changes can change. */
    private static final class State {
        int turnNumber;
        final Tower[] towers;
        int towerCount;
        final Kite[] kites;
        int kiteCount;
        final int[] windDirections;
        final int[] windForces;
        int windCount;
        final int[] points;
        int cuts;
        int strainCuts;
        int takenByOwn;
        int takenByOther;
        int movesNotDone;

        State() {
            towers = new Tower[MOST_TOWERS];
            for (int tower = 0; tower < MOST_TOWERS; tower++) {
                towers[tower] = new Tower();
            }
            kites = new Kite[MOST_KITES];
            for (int kite = 0; kite < MOST_KITES; kite++) {
                kites[kite] = new Kite();
            }
            windDirections = new int[MOST_WINDS];
            windForces = new int[MOST_WINDS];
            points = new int[2];
        }

        void copyFrom(State other) {
            turnNumber = other.turnNumber;
            towerCount = other.towerCount;
            for (int tower = 0; tower < MOST_TOWERS; tower++) {
                towers[tower].copyFrom(other.towers[tower]);
            }
            kiteCount = other.kiteCount;
            for (int kite = 0; kite < MOST_KITES; kite++) {
                kites[kite].copyFrom(other.kites[kite]);
            }
            windCount = other.windCount;
            for (int wind = 0; wind < MOST_WINDS; wind++) {
                windDirections[wind] = other.windDirections[wind];
                windForces[wind] = other.windForces[wind];
            }
            points[0] = other.points[0];
            points[1] = other.points[1];
            cuts = other.cuts;
            strainCuts = other.strainCuts;
            takenByOwn = other.takenByOwn;
            takenByOther = other.takenByOther;
            movesNotDone = other.movesNotDone;
        }

        int addTower(int side, int hexagon, int reach) {
            if (towerCount >= MOST_TOWERS) {
                return NONE;
            }
            Tower built = towers[towerCount];
            built.side = side;
            built.hexagon = hexagon;
            built.reach = reach;
            towerCount++;
            return towerCount - 1;
        }

        int addKite(int tower, int strength) {
            if (tower < 0 || tower >= towerCount || kiteCount >= MOST_KITES) {
                return NONE;
            }
            Kite brought = kites[kiteCount];
            brought.side = towers[tower].side;
            brought.tower = tower;
            brought.home = towers[tower].hexagon;
            brought.reach = towers[tower].reach;
            brought.hexagon = towers[tower].hexagon;
            brought.strength = strength;
            kiteCount++;
            return kiteCount - 1;
        }

        int addWind(int direction, int force) {
            if (windCount >= MOST_WINDS) {
                return NONE;
            }
            windDirections[windCount] = direction;
            windForces[windCount] = force;
            windCount++;
            return windCount;
        }

        /** By floorMod, as no number of a turn may give an index below 0, not even one past the last int. */
        int directionAt(int turn) {
            return windCount <= 0 ? 0 : windDirections[Math.floorMod(turn, windCount)];
        }

        /** Without winds it is as with one of the force 0. */
        int forceAt(int turn) {
            return windCount <= 0 ? 0 : windForces[Math.floorMod(turn, windCount)];
        }

        /** A negative number stands for no tower. */
        int towerIn(int hexagon) {
            for (int tower = 0; tower < towerCount; tower++) {
                if (towers[tower].hexagon == hexagon) {
                    return tower;
                }
            }
            return -1;
        }

        /** The lowest kite that flies or drifts there; a negative number stands for none. */
        int kiteIn(int hexagon) {
            for (int kite = 0; kite < kiteCount; kite++) {
                boolean isInTheAir = kites[kite].how == FLIES || kites[kite].how == DRIFTS;
                if (isInTheAir && kites[kite].hexagon == hexagon) {
                    return kite;
                }
            }
            return -1;
        }

        int towersOf(int side) {
            int found = 0;
            for (int tower = 0; tower < towerCount; tower++) {
                found += towers[tower].side == side ? 1 : 0;
            }
            return found;
        }

        int kitesAt(int tower) {
            int found = 0;
            for (int kite = 0; kite < kiteCount; kite++) {
                found += kites[kite].tower == tower ? 1 : 0;
            }
            return found;
        }

        int flyingFrom(int tower) {
            int found = 0;
            for (int kite = 0; kite < kiteCount; kite++) {
                found += kites[kite].tower == tower && kites[kite].how == FLIES ? 1 : 0;
            }
            return found;
        }

        int kitesThat(int how) {
            int found = 0;
            for (int kite = 0; kite < kiteCount; kite++) {
                found += kites[kite].how == how ? 1 : 0;
            }
            return found;
        }

        int slipsOf(int side) {
            int found = 0;
            for (int kite = 0; kite < kiteCount; kite++) {
                found += kites[kite].side == side && kites[kite].move != NO_MOVE ? 1 : 0;
            }
            return found;
        }
    }

    /** How a line is once the slip of its kite is carried out. */
    private static final class Flight {
        int direction;
        int length;
        boolean isDone;

        void plan(Kite kite) {
            direction = kite.direction;
            length = kite.length;
            move(kite);
            isDone = length <= kite.reach && Field.walk(kite.home, direction, length) != Field.OUT;
            if (!isDone) {
                direction = kite.direction;
                length = kite.length;
            }
        }

        private void move(Kite kite) {
            switch (kite.move) {
                case FLY:
                    direction = kite.moveDirection;
                    length = 1;
                    break;
                case LET_OUT:
                    length++;
                    break;
                case HAUL_IN:
                    length--;
                    break;
                case TURN_LEFT:
                    direction = direction == DIRECTIONS - 1 ? 0 : direction + 1;
                    break;
                case TURN_RIGHT:
                    direction = direction == 0 ? DIRECTIONS - 1 : direction - 1;
                    break;
                case LAND:
                    length = 0;
                    break;
                default:
                    break;
            }
        }
    }

    /** Which hexagons the lines cover: a bit for each hexagon in a long for each kite. */
    private static final class Lines {
        private final long[] covered;
        private final Flight flight;
        /** The pairs told so far: in the int for the lower kite a bit for the higher one. */
        private final int[] told;

        Lines() {
            covered = new long[MOST_KITES];
            flight = new Flight();
            told = new int[MOST_KITES];
        }

        void drawAsTheyAre(State war) {
            for (int kite = 0; kite < war.kiteCount; kite++) {
                Kite drawn = war.kites[kite];
                covered[kite] = hexagonsOf(drawn.home, drawn.direction, drawn.length);
            }
        }

        void drawBySlips(State war) {
            for (int kite = 0; kite < war.kiteCount; kite++) {
                Kite drawn = war.kites[kite];
                flight.plan(drawn);
                covered[kite] = hexagonsOf(drawn.home, flight.direction, flight.length);
            }
        }

        private static long hexagonsOf(int home, int direction, int length) {
            long hexagons = 0L;
            for (int step = 1; step <= length; step++) {
                int hexagon = Field.walk(home, direction, step);
                hexagons |= hexagon == Field.OUT ? 0L : 1L << hexagon;
            }
            return hexagons;
        }

        boolean doesCover(int kite, int hexagon) {
            return (covered[kite] >> hexagon & 1L) != 0L;
        }

        boolean isCovered(State war, int hexagon) {
            for (int kite = 0; kite < war.kiteCount; kite++) {
                if (doesCover(kite, hexagon)) {
                    return true;
                }
            }
            return false;
        }

        boolean doCross(State war, int one, int other) {
            boolean areOfTwoSides = war.kites[one].side != war.kites[other].side;
            return areOfTwoSides && (covered[one] & covered[other]) != 0L;
        }

        void forgetPairs() {
            for (int kite = 0; kite < MOST_KITES; kite++) {
                told[kite] = 0;
            }
        }

        int newPairsIn(State war, int hexagon) {
            int pairs = 0;
            for (int one = 0; one < war.kiteCount; one++) {
                if (!doesCover(one, hexagon)) {
                    continue;
                }
                for (int other = one + 1; other < war.kiteCount; other++) {
                    boolean areOfTwoSides = war.kites[one].side != war.kites[other].side;
                    boolean isNew = (told[one] >> other & 1) == 0;
                    if (areOfTwoSides && isNew && doesCover(other, hexagon)) {
                        told[one] |= 1 << other;
                        pairs++;
                    }
                }
            }
            return pairs;
        }
    }

    /** Lets a turn go, in its five parts. */
    private static final class Umpire {
        private final Lines lines;
        private final Flight flight;
        private final boolean[] isCut;
        private final int[] cutByIt;

        Umpire() {
            lines = new Lines();
            flight = new Flight();
            isCut = new boolean[MOST_KITES];
            cutByIt = new int[MOST_KITES];
        }

        /** Returns how many lines are cut. */
        int passOne(State war) {
            int direction = war.directionAt(war.turnNumber);
            int force = war.forceAt(war.turnNumber);
            int cutsBefore = war.cuts;
            carryOutSlips(war);
            blow(war, direction, force);
            cutStrained(war);
            findCrossed(war);
            cutCrossed(war);
            drift(war, direction, force);
            war.turnNumber++;
            return war.cuts - cutsBefore;
        }

        private void carryOutSlips(State war) {
            for (int index = 0; index < war.kiteCount; index++) {
                Kite kite = war.kites[index];
                if (kite.move != NO_MOVE) {
                    flight.plan(kite);
                    war.movesNotDone += flight.isDone ? 0 : 1;
                    kite.holdAt(flight.direction, flight.length);
                    kite.forgetSlip();
                }
            }
        }

        private void blow(State war, int direction, int force) {
            for (int index = 0; index < war.kiteCount; index++) {
                Kite kite = war.kites[index];
                if (kite.how != FLIES) {
                    continue;
                }
                if (kite.direction == direction) {
                    kite.strength = Math.max(0, kite.strength - force);
                } else if (force >= 2 && kite.direction == (direction + DIRECTIONS / 2) % DIRECTIONS) {
                    kite.holdAt(kite.direction, kite.length - 1);
                }
            }
        }

        private void cutStrained(State war) {
            for (int index = 0; index < war.kiteCount; index++) {
                Kite kite = war.kites[index];
                if (kite.how == FLIES && kite.strength <= 0) {
                    kite.loseLine();
                    war.cuts++;
                    war.strainCuts++;
                }
            }
        }

        /** All lines are looked at before one is cut, as they are looked at all at once. */
        private void findCrossed(State war) {
            lines.drawAsTheyAre(war);
            for (int kite = 0; kite < MOST_KITES; kite++) {
                isCut[kite] = false;
                cutByIt[kite] = 0;
            }
            for (int one = 0; one < war.kiteCount; one++) {
                for (int other = 0; other < war.kiteCount; other++) {
                    boolean isAsStrong = war.kites[one].strength >= war.kites[other].strength;
                    if (isAsStrong && lines.doCross(war, one, other)) {
                        isCut[other] = true;
                        cutByIt[one]++;
                    }
                }
            }
        }

        private void cutCrossed(State war) {
            for (int index = 0; index < war.kiteCount; index++) {
                Kite kite = war.kites[index];
                kite.linesCut += cutByIt[index];
                if (isCut[index]) {
                    kite.loseLine();
                    war.cuts++;
                    war.points[1 - kite.side] += 2;
                } else if (cutByIt[index] > 0) {
                    kite.strength = Math.max(1, kite.strength - cutByIt[index]);
                }
            }
        }

        private void drift(State war, int direction, int force) {
            for (int index = 0; index < war.kiteCount; index++) {
                Kite kite = war.kites[index];
                if (kite.how != DRIFTS) {
                    continue;
                }
                kite.hexagon = Field.walk(kite.hexagon, direction, force);
                int tower = war.towerIn(kite.hexagon);
                if (kite.hexagon == Field.OUT) {
                    kite.how = IS_LOST;
                } else if (tower >= 0) {
                    take(war, kite, war.towers[tower]);
                }
            }
        }

        private void take(State war, Kite kite, Tower taker) {
            taker.taken++;
            if (taker.side == kite.side) {
                war.takenByOwn++;
                kite.strength = 1;
                kite.holdAt(0, 0);
            } else {
                war.takenByOther++;
                kite.how = IS_LOST;
                war.points[taker.side] += 3;
            }
        }
    }

    /** What an order says: the kind is the move of a slip, or one of the two others. */
    private static final class Order {
        static final int WIND = 7;
        static final int TURNS = 8;
        int kind;
        /** The kite, the direction of the wind, or how many turns. */
        int first;
        /** The direction in which to fly, or the force. */
        int second;
    }

    /** The text and what it orders; behind the first fault nothing more is read, so that its position stays. */
    private static final class Orders {
        /** One more than 60 characters hold: behind the last ";" an order is still looked for. */
        private static final int MOST_ORDERS = 13;
        private static final int END = -1;

        final StringBuilder text;
        final Order[] all;
        int count;
        int at;
        boolean isWrong;

        Orders() {
            text = new StringBuilder();
            all = new Order[MOST_ORDERS];
            for (int order = 0; order < MOST_ORDERS; order++) {
                all[order] = new Order();
            }
        }

        void readAll() {
            at = 0;
            isWrong = false;
            count = 0;
            while (count < MOST_ORDERS) {
                readOne(all[count]);
                count++;
                if (isWrong || at == text.length()) {
                    return;
                }
                expect(';');
            }
            isWrong = true;
        }

        private void readOne(Order order) {
            switch (ahead()) {
                case 'w':
                    order.kind = Order.WIND;
                    expectWord("wind ");
                    order.first = expectDigit();
                    expect('*');
                    order.second = expectDigit();
                    break;
                case 't':
                    order.kind = Order.TURNS;
                    expectWord("turn ");
                    order.first = expectDigit();
                    order.second = 0;
                    break;
                default:
                    order.first = expectDigit();
                    expect(' ');
                    order.second = 0;
                    readMove(order);
            }
        }

        private void readMove(Order order) {
            switch (ahead()) {
                case 'f':
                    order.kind = FLY;
                    expectWord("fly ");
                    order.second = expectDigit();
                    break;
                case 'o':
                    order.kind = LET_OUT;
                    expectWord("out");
                    break;
                case 'i':
                    order.kind = HAUL_IN;
                    expectWord("in");
                    break;
                case 'r':
                    order.kind = TURN_RIGHT;
                    expectWord("right");
                    break;
                case 'l':
                    expect('l');
                    order.kind = ahead() == 'e' ? TURN_LEFT : LAND;
                    expectWord(order.kind == TURN_LEFT ? "eft" : "and");
                    break;
                default:
                    isWrong = true;
            }
        }

        private int ahead() {
            return at < text.length() ? text.charAt(at) : END;
        }

        private void expect(char due) {
            if (!isWrong && ahead() == due) {
                at++;
            } else {
                isWrong = true;
            }
        }

        private void expectWord(String word) {
            for (int letter = 0; letter < word.length(); letter++) {
                expect(word.charAt(letter));
            }
        }

        private int expectDigit() {
            int code = ahead();
            if (isWrong || code < '0' || code > '9') {
                isWrong = true;
                return 0;
            }
            at++;
            return code - '0';
        }
    }

    /** The states before the latest changes, in a ring. */
    private static final class History {
        private final State[] states;
        private int next;
        int count;

        History() {
            states = new State[MOST_UNDONE];
            for (int state = 0; state < MOST_UNDONE; state++) {
                states[state] = new State();
            }
        }

        void add(State state) {
            states[next].copyFrom(state);
            next = next == MOST_UNDONE - 1 ? 0 : next + 1;
            count = Math.min(MOST_UNDONE, count + 1);
        }

        void takeBack(State state) {
            if (count > 0) {
                next = next == 0 ? MOST_UNDONE - 1 : next - 1;
                state.copyFrom(states[next]);
                count--;
            }
        }

        void forget() {
            count = 0;
        }
    }
}
