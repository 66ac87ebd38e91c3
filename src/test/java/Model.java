import java.util.ArrayDeque;
import java.util.ArrayList;
import java.util.Deque;
import java.util.LinkedHashSet;
import java.util.List;
import java.util.Set;

/**
 * The document once more, written in another way: hexagons as points of a drawing, lines as sets,
 * texts by the list of all orders that there are, states that are thrown away.
 */
final class Model {
    static final int NONE = -11;
    static final int BAD = -12;
    static final int FULL = -13;
    static final int REFUSED = -14;
    static final int NOTHING = -15;
    private static final int[] LENGTHS = {4, 5, 6, 7, 6, 5, 4};
    private static final int[] ACROSS = {2, 1, -1, -2, -1, 1};
    private static final int[] DOWN = {0, -1, -1, 0, 1, 1};
    private static final List<String> ORDERS = allOrders();

    static final class Tower {
        int side;
        int hexagon;
        int reach;
        int taken;
    }

    static final class Kite {
        int number;
        Tower home;
        String how = "rest";
        int direction;
        int length;
        int driftsIn;
        int strength;
        int cut;
        int linesCut;
        int[] slip;
    }

    static final class State {
        int turn;
        List<Tower> towers = new ArrayList<>();
        List<Kite> kites = new ArrayList<>();
        List<int[]> winds = new ArrayList<>();
        int[] points = new int[2];
        int[] counts = new int[5];

        State copy() {
            State copy = new State();
            copy.turn = turn;
            copy.winds.addAll(winds);
            copy.points = points.clone();
            copy.counts = counts.clone();
            for (Tower tower : towers) {
                Tower other = new Tower();
                other.side = tower.side;
                other.hexagon = tower.hexagon;
                other.reach = tower.reach;
                other.taken = tower.taken;
                copy.towers.add(other);
            }
            for (Kite kite : kites) {
                Kite other = new Kite();
                other.number = kite.number;
                other.home = copy.towers.get(towers.indexOf(kite.home));
                other.how = kite.how;
                other.direction = kite.direction;
                other.length = kite.length;
                other.driftsIn = kite.driftsIn;
                other.strength = kite.strength;
                other.cut = kite.cut;
                other.linesCut = kite.linesCut;
                other.slip = kite.slip;
                copy.kites.add(other);
            }
            return copy;
        }
    }

    private static final int CUT = 0;
    private static final int STRAINED = 1;
    private static final int OWN = 2;
    private static final int OTHER = 3;
    private static final int NOT_DONE = 4;

    private State now = new State();
    private State saved;
    private final Deque<State> past = new ArrayDeque<>();
    private String text = "";
    private String line = "";
    private int reason = NOTHING;
    private int detail = NOTHING;

    private static List<String> allOrders() {
        List<String> all = new ArrayList<>();
        for (int one = 0; one < 10; one++) {
            for (int other = 0; other < 10; other++) {
                all.add(one + " fly " + other);
                all.add("wind " + one + "*" + other);
            }
            for (String move : new String[] {"out", "in", "left", "right", "land"}) {
                all.add(one + " " + move);
            }
            all.add("turn " + one);
        }
        return all;
    }

    // ---- the field

    private static int[] drawn(int hexagon) {
        int row = 0;
        int place = hexagon;
        while (place >= LENGTHS[row]) {
            place -= LENGTHS[row++];
        }
        return new int[] {row, 7 - LENGTHS[row] + 2 * place};
    }

    private static int step(int hexagon, int direction) {
        if (hexagon < 0) {
            return hexagon;
        }
        int[] from = drawn(hexagon);
        for (int other = 0; other < 37; other++) {
            int[] to = drawn(other);
            if (to[0] == from[0] + DOWN[direction] && to[1] == from[1] + ACROSS[direction]) {
                return other;
            }
        }
        return NOTHING;
    }

    private static int steps(int hexagon, int direction, int many) {
        int reached = hexagon;
        for (int step = 0; step < many; step++) {
            reached = step(reached, direction);
        }
        return reached;
    }

    private static int distance(int one, int other) {
        int down = Math.abs(drawn(one)[0] - drawn(other)[0]);
        int across = Math.abs(drawn(one)[1] - drawn(other)[1]);
        return across <= down ? down : down + (across - down) / 2;
    }

    private static boolean in(int number, int from, int to) {
        return number >= from && number <= to;
    }

    int beside(int hexagon, int direction) {
        return !in(hexagon, 0, 36) ? NONE : !in(direction, 0, 5) ? BAD : step(hexagon, direction);
    }

    int apart(int one, int other) {
        return in(one, 0, 36) && in(other, 0, 36) ? distance(one, other) : NONE;
    }

    // ---- what the state says

    private boolean isTower(int tower) {
        return in(tower, 0, now.towers.size() - 1);
    }

    private boolean isKite(int kite) {
        return in(kite, 0, now.kites.size() - 1);
    }

    private int towerAt(int hexagon) {
        for (Tower tower : now.towers) {
            if (tower.hexagon == hexagon) {
                return now.towers.indexOf(tower);
            }
        }
        return -1;
    }

    private int[] windOf(int turn) {
        return now.winds.isEmpty() ? new int[] {0, 0} : now.winds.get(turn % now.winds.size());
    }

    private static int where(Kite kite) {
        switch (kite.how) {
            case "rest":
                return kite.home.hexagon;
            case "flies":
                return steps(kite.home.hexagon, kite.direction, kite.length);
            case "drifts":
                return kite.driftsIn;
            default:
                return NOTHING;
        }
    }

    private static Set<Integer> cover(Tower home, int direction, int length) {
        Set<Integer> covered = new LinkedHashSet<>();
        for (int step = 1; step <= length; step++) {
            covered.add(steps(home.hexagon, direction, step));
        }
        return covered;
    }

    private static Set<Integer> lineOf(Kite kite) {
        return cover(kite.home, kite.direction, kite.how.equals("flies") ? kite.length : 0);
    }

    private static boolean share(Set<Integer> one, Set<Integer> other) {
        Set<Integer> both = new LinkedHashSet<>(one);
        both.retainAll(other);
        return !both.isEmpty();
    }

    private int kitesThat(String how) {
        int found = 0;
        for (Kite kite : now.kites) {
            found += kite.how.equals(how) ? 1 : 0;
        }
        return found;
    }

    private int slipsOf(int side) {
        int found = 0;
        for (Kite kite : now.kites) {
            found += kite.slip != null && (side < 0 || kite.home.side == side) ? 1 : 0;
        }
        return found;
    }

    // ---- changes

    private int refuse(int why, int what) {
        reason = why;
        detail = what;
        return REFUSED;
    }

    private int change(State old, int answer) {
        if (answer >= 0) {
            past.addLast(old);
            if (past.size() > 8) {
                past.removeFirst();
            }
        }
        return answer;
    }

    int tower(int side, int hexagon, int reach) {
        if (!in(side, 0, 1) || !in(hexagon, 0, 36)) {
            return NONE;
        }
        if (!in(reach, 1, 4)) {
            return BAD;
        }
        if (towerAt(hexagon) >= 0) {
            return refuse(2, towerAt(hexagon));
        }
        int ofSide = 0;
        for (Tower tower : now.towers) {
            ofSide += tower.side == side ? 1 : 0;
        }
        if (ofSide == 3) {
            return refuse(1, 3);
        }
        State old = now.copy();
        Tower built = new Tower();
        built.side = side;
        built.hexagon = hexagon;
        built.reach = reach;
        now.towers.add(built);
        return change(old, now.towers.size() - 1);
    }

    int kite(int tower, int strength) {
        if (!isTower(tower)) {
            return NONE;
        }
        if (!in(strength, 1, 9)) {
            return BAD;
        }
        if (towerOf(tower, 3) == 2) {
            return refuse(1, 2);
        }
        State old = now.copy();
        Kite brought = new Kite();
        brought.number = now.kites.size();
        brought.home = now.towers.get(tower);
        brought.strength = strength;
        now.kites.add(brought);
        return change(old, brought.number);
    }

    private int tellWind(int direction, int force) {
        if (!in(direction, 0, 5) || !in(force, 0, 3)) {
            return BAD;
        }
        if (now.winds.size() == 6) {
            return refuse(1, 6);
        }
        now.winds.add(new int[] {direction, force});
        return now.winds.size();
    }

    int wind(int direction, int force) {
        State old = now.copy();
        return change(old, tellWind(direction, force));
    }

    private int writeSlip(int number, int move, int direction) {
        if (!isKite(number)) {
            return NONE;
        }
        if (!in(move, 1, 6) || !in(direction, 0, move == 1 ? 5 : 0)) {
            return BAD;
        }
        Kite kite = now.kites.get(number);
        if (kite.how.equals("drifts") || kite.how.equals("lost")) {
            return refuse(5, kite.how.equals("drifts") ? 2 : 3);
        }
        if (kite.how.equals("flies") && move == 1) {
            return refuse(3, 1);
        }
        if (kite.how.equals("rest") && move > 1) {
            return refuse(4, number);
        }
        kite.slip = new int[] {move, direction};
        return slipsOf(kite.home.side);
    }

    int slip(int kite, int move, int direction) {
        State old = now.copy();
        return change(old, writeSlip(kite, move, direction));
    }

    int tear(int kite) {
        if (!isKite(kite)) {
            return NONE;
        }
        int[] slip = now.kites.get(kite).slip;
        if (slip == null) {
            return refuse(7, kite);
        }
        State old = now.copy();
        now.kites.get(kite).slip = null;
        return change(old, slip[0]);
    }

    /** How long the line is, and in which direction, behind the slip; null if it is not done. */
    private static int[] behindSlip(Kite kite) {
        int direction = kite.direction;
        int length = kite.how.equals("flies") ? kite.length : 0;
        switch (kite.slip == null ? 0 : kite.slip[0]) {
            case 1:
                direction = kite.slip[1];
                length = 1;
                break;
            case 2:
                length++;
                break;
            case 3:
                length--;
                break;
            case 4:
                direction = (direction + 1) % 6;
                break;
            case 5:
                direction = (direction + 5) % 6;
                break;
            case 6:
                length = 0;
                break;
            default:
        }
        boolean isOut = steps(kite.home.hexagon, direction, length) == NOTHING;
        return isOut || length > kite.home.reach ? null : new int[] {length, direction};
    }

    private static void onLine(Kite kite, int length, int direction) {
        kite.length = length;
        kite.direction = direction;
        kite.how = length == 0 ? "rest" : "flies";
    }

    private void cut(Kite kite) {
        kite.driftsIn = where(kite);
        kite.how = "drifts";
        kite.cut++;
        now.counts[CUT]++;
    }

    private int passTurns(int turns) {
        if (!in(turns, 1, 9)) {
            return BAD;
        }
        int before = now.counts[CUT];
        for (int turn = 0; turn < turns; turn++) {
            passTurn(windOf(now.turn)[0], windOf(now.turn)[1]);
            now.turn++;
        }
        return now.counts[CUT] - before;
    }

    private void passTurn(int direction, int force) {
        for (Kite kite : now.kites) {
            if (kite.slip != null) {
                int[] behind = behindSlip(kite);
                if (behind == null) {
                    now.counts[NOT_DONE]++;
                } else {
                    onLine(kite, behind[0], behind[1]);
                }
                kite.slip = null;
            }
        }
        for (Kite kite : now.kites) {
            boolean flies = kite.how.equals("flies");
            if (flies && force >= 1 && kite.direction == direction) {
                kite.strength -= Math.min(force, kite.strength);
            }
            if (flies && force >= 2 && Math.abs(kite.direction - direction) == 3) {
                onLine(kite, kite.length - 1, kite.direction);
            }
        }
        for (Kite kite : now.kites) {
            if (kite.how.equals("flies") && kite.strength == 0) {
                cut(kite);
                now.counts[STRAINED]++;
            }
        }
        crossLines();
        for (Kite kite : now.kites) {
            if (kite.how.equals("drifts")) {
                drift(kite, steps(kite.driftsIn, direction, force));
            }
        }
    }

    private void crossLines() {
        List<Kite> cut = new ArrayList<>();
        int[] weaker = new int[12];
        for (Kite one : now.kites) {
            for (Kite other : now.kites) {
                boolean meet = one.home.side != other.home.side && share(lineOf(one), lineOf(other));
                if (meet && other.strength >= one.strength) {
                    weaker[other.number]++;
                    if (!cut.contains(one)) {
                        cut.add(one);
                    }
                }
            }
        }
        for (Kite kite : now.kites) {
            kite.linesCut += weaker[kite.number];
            for (int less = 0; less < weaker[kite.number] && !cut.contains(kite); less++) {
                kite.strength = kite.strength > 1 ? kite.strength - 1 : 1;
            }
        }
        for (Kite kite : cut) {
            cut(kite);
            now.points[1 - kite.home.side] += 2;
        }
    }

    private void drift(Kite kite, int hexagon) {
        kite.driftsIn = hexagon;
        if (hexagon == NOTHING) {
            kite.how = "lost";
            return;
        }
        if (towerAt(hexagon) < 0) {
            return;
        }
        Tower tower = now.towers.get(towerAt(hexagon));
        tower.taken++;
        if (tower.side == kite.home.side) {
            kite.how = "rest";
            kite.strength = 1;
            now.counts[OWN]++;
        } else {
            kite.how = "lost";
            now.points[tower.side] += 3;
            now.counts[OTHER]++;
        }
    }

    int turn(int turns) {
        State old = now.copy();
        return change(old, passTurns(turns));
    }

    // ---- what is asked

    int windNow(boolean isForce) {
        return now.winds.isEmpty() ? NOTHING : windOf(now.turn)[isForce ? 1 : 0];
    }

    int towerOf(int number, int what) {
        if (!isTower(number)) {
            return NONE;
        }
        Tower tower = now.towers.get(number);
        int kites = 0;
        int flying = 0;
        for (Kite kite : now.kites) {
            kites += kite.home == tower ? 1 : 0;
            flying += kite.home == tower && kite.how.equals("flies") ? 1 : 0;
        }
        int[] all = {tower.side, tower.hexagon, tower.reach, kites, flying, tower.taken};
        return in(what, 0, 5) ? all[what] : BAD;
    }

    int kiteOf(int number, int what) {
        if (!isKite(number)) {
            return NONE;
        }
        Kite kite = now.kites.get(number);
        boolean flies = kite.how.equals("flies");
        int how = List.of("rest", "flies", "drifts", "lost").indexOf(kite.how);
        int[] all = {kite.home.side, now.towers.indexOf(kite.home), how,
            flies ? kite.direction : NOTHING, flies ? kite.length : 0, where(kite),
            kite.strength, kite.cut, kite.linesCut};
        return in(what, 0, 8) ? all[what] : BAD;
    }

    int seen(int side, int kite) {
        if (!in(side, 0, 1) || !isKite(kite)) {
            return NONE;
        }
        Kite asked = now.kites.get(kite);
        if (asked.home.side != side) {
            return refuse(6, kite);
        }
        return asked.slip == null ? refuse(7, kite) : asked.slip[0] + 10 * asked.slip[1];
    }

    int crossings() {
        int pairs = 0;
        for (Kite one : now.kites) {
            for (Kite other : now.kites) {
                if (one.home.side < other.home.side && share(lineThen(one), lineThen(other))) {
                    pairs++;
                }
            }
        }
        return pairs;
    }

    private static Set<Integer> lineThen(Kite kite) {
        int[] behind = behindSlip(kite);
        return behind == null ? lineOf(kite) : cover(kite.home, behind[1], behind[0]);
    }

    int driftsTo(int kite, int turns) {
        if (!isKite(kite)) {
            return NONE;
        }
        if (!in(turns, 0, 9)) {
            return BAD;
        }
        if (!now.kites.get(kite).how.equals("drifts")) {
            return NOTHING;
        }
        int hexagon = now.kites.get(kite).driftsIn;
        for (int turn = now.turn; turn < now.turn + turns; turn++) {
            hexagon = steps(hexagon, windOf(turn)[0], windOf(turn)[1]);
        }
        return hexagon;
    }

    int bestDirection(int number) {
        if (!isTower(number)) {
            return NONE;
        }
        Tower tower = now.towers.get(number);
        int best = 0;
        int bestWorth = Integer.MIN_VALUE;
        for (int direction = 0; direction < 6; direction++) {
            Set<Integer> line = cover(tower, direction, tower.reach);
            line.remove(NOTHING);
            int worth = 1000 * line.size();
            for (Kite kite : now.kites) {
                Set<Integer> both = lineOf(kite);
                both.retainAll(line);
                worth -= kite.home.side != tower.side ? both.size() : 0;
            }
            if (worth > bestWorth) {
                best = direction;
                bestWorth = worth;
            }
        }
        return best;
    }

    int nearest(int side, int hexagon) {
        if (!in(side, 0, 1) || !in(hexagon, 0, 36)) {
            return NONE;
        }
        for (int far = 0; far < 7; far++) {
            for (Tower tower : now.towers) {
                if (tower.side == side && distance(tower.hexagon, hexagon) == far) {
                    return now.towers.indexOf(tower);
                }
            }
        }
        return NOTHING;
    }

    // ---- texts, lines

    int append(int code) {
        if (!in(code, 32, 126)) {
            return BAD;
        }
        if (text.length() == 60) {
            return FULL;
        }
        text += (char) code;
        return text.length();
    }

    /** Whether some text that there is begins so. */
    private static boolean canContinue(String start) {
        String[] parts = start.split(";", -1);
        for (int part = 0; part < parts.length - 1; part++) {
            if (!ORDERS.contains(parts[part])) {
                return false;
            }
        }
        for (String order : ORDERS) {
            if (order.startsWith(parts[parts.length - 1])) {
                return true;
            }
        }
        return false;
    }

    int run() {
        String orders = text;
        text = "";
        for (int length = 1; length <= orders.length(); length++) {
            if (!canContinue(orders.substring(0, length))) {
                return -1000 - (length - 1);
            }
        }
        String[] parts = orders.split(";", -1);
        if (!ORDERS.contains(parts[parts.length - 1])) {
            return -1000 - orders.length();
        }
        State old = now.copy();
        for (int part = 0; part < parts.length; part++) {
            if (carryOut(parts[part]) < 0) {
                now = old;
                return refuse(8, part);
            }
        }
        return change(old, parts.length);
    }

    private int carryOut(String order) {
        int last = order.charAt(order.length() - 1) - '0';
        if (order.startsWith("turn")) {
            return passTurns(last);
        }
        if (order.startsWith("wind")) {
            return tellWind(order.charAt(5) - '0', last);
        }
        String move = order.substring(2);
        int kite = order.charAt(0) - '0';
        return move.startsWith("fly") ? writeSlip(kite, 1, last)
            : writeSlip(kite, 2 + List.of("out", "in", "left", "right", "land").indexOf(move), 0);
    }

    int tell(int row) {
        if (!in(row, 0, 6)) {
            return NONE;
        }
        List<String> signs = new ArrayList<>();
        for (int hexagon = 0; hexagon < 37; hexagon++) {
            if (drawn(hexagon)[0] == row) {
                signs.add(sign(hexagon));
            }
        }
        line = String.join(" ", signs);
        return line.length();
    }

    private String sign(int hexagon) {
        if (towerAt(hexagon) >= 0) {
            return now.towers.get(towerAt(hexagon)).side == 0 ? "A" : "B";
        }
        for (Kite kite : now.kites) {
            if (where(kite) == hexagon && !kite.how.equals("rest")) {
                return "" + kite.number;
            }
        }
        for (Kite kite : now.kites) {
            if (lineOf(kite).contains(hexagon)) {
                return "+";
            }
        }
        return ".";
    }

    int tellKite(int number) {
        if (!isKite(number)) {
            return NONE;
        }
        Kite kite = now.kites.get(number);
        line = "k" + number + " " + kite.how;
        if (kite.how.equals("drifts")) {
            line += " " + where(kite);
        }
        if (kite.how.equals("flies")) {
            line += " " + kite.direction + "x" + kite.length;
        }
        line += kite.how.equals("lost") ? "" : " s" + kite.strength;
        return line.length();
    }

    int character(int index) {
        return in(index, 0, line.length() - 1) ? line.charAt(index) : NONE;
    }

    // ---- reasons, accounts, undo and the snapshot

    int reason(boolean isDetail) {
        return isDetail ? detail : reason;
    }

    int account(int what) {
        int[] all = {now.turn, now.towers.size(), now.kites.size(), kitesThat("rest"),
            kitesThat("flies"), kitesThat("drifts"), kitesThat("lost"), slipsOf(-1),
            now.winds.size(), now.points[0], now.points[1], now.counts[CUT], now.counts[STRAINED],
            now.counts[OWN], now.counts[OTHER], now.counts[NOT_DONE], text.length(), past.size()};
        return in(what, 0, 17) ? all[what] : BAD;
    }

    double meanStrength() {
        int left = now.kites.size() - kitesThat("lost");
        int sum = 0;
        for (Kite kite : now.kites) {
            sum += kite.how.equals("lost") ? 0 : kite.strength;
        }
        return left == 0 ? 0.0 : (double) sum / (double) left;
    }

    float lostShare() {
        return now.kites.isEmpty() ? 0.0f : (float) kitesThat("lost") / (float) now.kites.size();
    }

    int undo() {
        if (past.isEmpty()) {
            return NOTHING;
        }
        now = past.removeLast();
        return past.size();
    }

    int save() {
        saved = now.copy();
        return now.kites.size();
    }

    int restore() {
        if (saved == null) {
            return NOTHING;
        }
        now = saved.copy();
        past.clear();
        return now.kites.size();
    }
}
