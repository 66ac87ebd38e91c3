/** The edges of a turn: its five parts, the sentences under "In doubt" about them, and the promise 14, each by itself. */
public final class TurnEdgesTest {
    private static final int NOTHING = KiteWar.NOTHING;
    private static final int[] FORCES = {0, 1, 2, 3};

    private static void line(KiteWar war, int kite, String due) {
        Check.due("the kite " + kite, Check.kiteLine(war, kite), due);
    }

    private static void points(KiteWar war, int first, int second) {
        Check.due("account(9)", war.account(9), first);
        Check.due("account(10)", war.account(10), second);
    }

    /** A kite of the side 0 in the middle of the field, with a line of 1 to 3. */
    private static KiteWar middle(int strength, int direction, int length) {
        KiteWar war = new KiteWar();
        Check.flying(war, 0, 18, strength, direction, length);
        return war;
    }

    /**
     * The lines of the kites 0 and 1, of two sides, meet in the hexagon 17 in the next turn, the turn 1;
     * there are towers in 15, of the side 0, in 4 and in 28, of the side 1.
     */
    private static KiteWar pair(int first, int second) {
        KiteWar war = new KiteWar();
        war.kite(war.tower(0, 15, 4), first);
        war.kite(war.tower(1, 4, 4), second);
        war.tower(1, 28, 4);
        war.slip(0, 1, 0);
        war.slip(1, 1, 5);
        war.turn(1);
        war.slip(0, 2, 0);
        war.slip(1, 2, 0);
        return war;
    }

    // ---- first, the slips

    private static void allSlips() {
        Check.sentence("First, all slips are carried out, and are gone");
        KiteWar war = new KiteWar();
        for (int tower = 0; tower < 6; tower++) {
            war.tower(tower % 2, 15 + tower, 1);
            war.kite(tower, 5);
            war.kite(tower, 5);
            war.slip(2 * tower, 1, 1);
            war.slip(2 * tower + 1, 1, 1);
        }
        Check.due("account(7)", war.account(7), 12);
        war.turn(1);
        Check.due("account(7)", war.account(7), 0);
        Check.due("account(4)", war.account(4), 12);
        for (int kite = 0; kite < 12; kite++) {
            Check.refused("tear(" + kite + ")", war, war.tear(kite), 7, kite);
        }
        war.turn(1);
        Check.due("account(4)", war.account(4), 12);
    }

    private static void onceAlone() {
        Check.sentence("First, all slips are carried out, and are gone");
        KiteWar war = middle(5, 0, 1);
        war.slip(0, 2, 0);
        war.turn(9);
        line(war, 0, "k0 flies 0x2 s5");
        war.slip(0, 4, 0);
        war.turn(2);
        line(war, 0, "k0 flies 1x2 s5");
    }

    private static void flyWithALineOfOne() {
        Check.sentence("a kite at rest flies with a line of 1");
        int[] around = {19, 12, 11, 17, 24, 25};
        for (int direction = 0; direction < 6; direction++) {
            KiteWar war = Check.alone(1, 18, 4, 5);
            Check.order(war, 0, 1, direction);
            Check.numbersOfKite(war, 0, 1, 0, 1, direction, 1, around[direction], 5, 0, 0);
        }
    }

    private static void longerAndShorter() {
        Check.sentence("the others let the line be 1 longer, or 1 shorter, and rest if it is 0");
        for (int direction = 0; direction < 6; direction++) {
            KiteWar war = middle(5, direction, 1);
            Check.order(war, 0, 2, 0);
            line(war, 0, "k0 flies " + direction + "x2 s5");
            Check.order(war, 0, 2, 0);
            line(war, 0, "k0 flies " + direction + "x3 s5");
            Check.order(war, 0, 3, 0);
            line(war, 0, "k0 flies " + direction + "x2 s5");
            Check.order(war, 0, 3, 0);
            line(war, 0, "k0 flies " + direction + "x1 s5");
            Check.order(war, 0, 3, 0);
            Check.numbersOfKite(war, 0, 0, 0, 0, NOTHING, 0, 18, 5, 0, 0);
        }
    }

    private static void turnedOrLanded() {
        Check.sentence("turn, with the line as long as before; or rest");
        for (int length = 1; length <= 3; length++) {
            for (int direction = 0; direction < 6; direction++) {
                KiteWar left = middle(5, direction, length);
                Check.order(left, 0, 4, 0);
                line(left, 0, "k0 flies " + (direction + 1) % 6 + "x" + length + " s5");
                KiteWar right = middle(5, direction, length);
                Check.order(right, 0, 5, 0);
                line(right, 0, "k0 flies " + (direction + 5) % 6 + "x" + length + " s5");
                KiteWar landed = middle(5, direction, length);
                Check.order(landed, 0, 6, 0);
                Check.numbersOfKite(landed, 0, 0, 0, 0, NOTHING, 0, 18, 5, 0, 0);
            }
        }
    }

    /** How many steps there are from a hexagon to the end of the field, as beside tells it. */
    private static int stepsAhead(int hexagon, int direction) {
        KiteWar war = new KiteWar();
        int steps = 0;
        for (int at = war.beside(hexagon, direction); at >= 0; at = war.beside(at, direction)) {
            steps++;
        }
        return steps;
    }

    private static void notOutOfTheField() {
        Check.sentence("What would bring a kite out of the field, or make the line longer than the reach, is not done.");
        for (int hexagon = 0; hexagon < 37; hexagon++) {
            for (int direction = 0; direction < 6; direction++) {
                KiteWar war = Check.alone(0, hexagon, 4, 5);
                int longest = Math.min(4, stepsAhead(hexagon, direction));
                for (int turn = 1; turn <= 5; turn++) {
                    int isFlying = war.kiteOf(0, 2);
                    Check.order(war, 0, isFlying == 1 ? 2 : 1, isFlying == 1 ? 0 : direction);
                    Check.due("the line from " + hexagon, war.kiteOf(0, 4), Math.min(turn, longest));
                    Check.due("the moves not done", war.account(15), Math.max(0, turn - longest));
                }
            }
        }
    }

    /** A kite that flew before rests where it rested, if it can't fly once more. */
    private static void notDoneBehindALanding() {
        Check.sentence("What would bring a kite out of the field, or make the line longer than the reach, is not done.");
        for (int landing : new int[] {3, 6}) {
            KiteWar war = Check.alone(0, 0, 4, 5);
            Check.order(war, 0, 1, 5);
            Check.order(war, 0, landing, 0);
            Check.numbersOfKite(war, 0, 0, 0, 0, NOTHING, 0, 0, 5, 0, 0);
            Check.order(war, 0, 1, 2);
            Check.due("account(15)", war.account(15), 1);
            Check.numbersOfKite(war, 0, 0, 0, 0, NOTHING, 0, 0, 5, 0, 0);
        }
    }

    private static void notTurnedOutOfTheField() {
        Check.sentence("What would bring a kite out of the field, or make the line longer than the reach, is not done.");
        KiteWar war = Check.alone(0, 3, 4, 5);
        Check.order(war, 0, 1, 5);
        Check.order(war, 0, 2, 0);
        Check.order(war, 0, 4, 0);
        line(war, 0, "k0 flies 5x2 s5");
        Check.due("account(15)", war.account(15), 1);
        Check.order(war, 0, 5, 0);
        line(war, 0, "k0 flies 4x2 s5");
        Check.order(war, 0, 5, 0);
        line(war, 0, "k0 flies 3x2 s5");
        Check.order(war, 0, 5, 0);
        line(war, 0, "k0 flies 3x2 s5");
        Check.due("account(15)", war.account(15), 2);
        KiteWar shorter = Check.alone(0, 2, 4, 5);
        Check.order(shorter, 0, 1, 5);
        Check.order(shorter, 0, 2, 0);
        Check.order(shorter, 0, 4, 0);
        line(shorter, 0, "k0 flies 5x2 s5");
        Check.order(shorter, 0, 3, 0);
        Check.order(shorter, 0, 4, 0);
        line(shorter, 0, "k0 flies 0x1 s5");
        Check.due("account(15)", shorter.account(15), 1);
    }

    private static void notLongerThanTheReach() {
        Check.sentence("What would bring a kite out of the field, or make the line longer than the reach, is not done.");
        for (int reach = 1; reach <= 4; reach++) {
            KiteWar war = Check.alone(0, 15, reach, 5);
            Check.order(war, 0, 1, 0);
            for (int length = 1; length < reach; length++) {
                Check.order(war, 0, 2, 0);
            }
            Check.due("account(15)", war.account(15), 0);
            line(war, 0, "k0 flies 0x" + reach + " s5");
            Check.order(war, 0, 2, 0);
            Check.due("account(15)", war.account(15), 1);
            line(war, 0, "k0 flies 0x" + reach + " s5");
            Check.order(war, 0, 3, 0);
            Check.due("account(15)", war.account(15), 1);
            Check.due("kiteOf(0, 4)", war.kiteOf(0, 4), reach - 1);
        }
    }

    private static void goneIfNotDone() {
        Check.sentence("A slip of a kite is gone behind a turn, also if its move was not done.");
        KiteWar war = Check.alone(0, 0, 1, 5);
        war.slip(0, 1, 3);
        war.turn(3);
        Check.due("account(15)", war.account(15), 1);
        Check.due("account(7)", war.account(7), 0);
        Check.refused("seen(0, 0)", war, war.seen(0, 0), 7, 0);
        Check.order(war, 0, 1, 0);
        war.slip(0, 2, 0);
        war.turn(3);
        Check.due("account(15)", war.account(15), 2);
        Check.refused("tear(0)", war, war.tear(0), 7, 0);
    }

    // ---- second, the wind

    private static void strain() {
        Check.sentence("if the force is 1 or more and the direction is that of the wind, "
                + "the strength gets less by the force, but not below 0");
        for (int direction = 0; direction < 6; direction++) {
            for (int force : FORCES) {
                for (int strength = 1; strength <= 9; strength++) {
                    KiteWar war = middle(strength, direction, 1);
                    war.wind(direction, force);
                    boolean isCut = strength <= force;
                    Check.due("turn(1)", war.turn(1), isCut ? 1 : 0);
                    Check.due("kiteOf(0, 6)", war.kiteOf(0, 6), Math.max(0, strength - force));
                    Check.due("kiteOf(0, 4)", war.kiteOf(0, 4), isCut ? 0 : 1);
                    Check.due("account(12)", war.account(12), isCut ? 1 : 0);
                }
            }
        }
    }

    private static void against() {
        Check.sentence("if the force is 2 or more and the direction is the opposite one, "
                + "the line gets 1 shorter, and the kite rests if it is 0");
        for (int direction = 0; direction < 6; direction++) {
            for (int force : FORCES) {
                for (int length = 1; length <= 3; length++) {
                    KiteWar war = middle(1, direction, length);
                    war.wind((direction + 3) % 6, force);
                    war.turn(1);
                    int left = force >= 2 ? length - 1 : length;
                    line(war, 0, left == 0 ? "k0 rest s1" : "k0 flies " + direction + "x" + left + " s1");
                    Check.due("kiteOf(0, 3)", war.kiteOf(0, 3), left == 0 ? NOTHING : direction);
                    Check.due("account(3)", war.account(3), left == 0 ? 1 : 0);
                }
            }
        }
    }

    private static void fromTheSide() {
        Check.sentence("if the force is 1 or more and the direction is that of the wind");
        for (int direction = 0; direction < 6; direction++) {
            for (int turned : new int[] {1, 2, 4, 5}) {
                KiteWar war = middle(1, direction, 2);
                war.wind((direction + turned) % 6, 3);
                Check.due("turn(2)", war.turn(2), 0);
                line(war, 0, "k0 flies " + direction + "x2 s1");
            }
        }
    }

    private static void onlyKitesThatFly() {
        Check.sentence("Second, of each kite that flies");
        for (int direction = 0; direction < 6; direction++) {
            KiteWar war = Check.alone(0, 18, 4, 1);
            war.wind(direction, 3);
            Check.due("turn(9)", war.turn(9), 0);
            line(war, 0, "k0 rest s1");
        }
        KiteWar drifting = pair(4, 4);
        drifting.turn(1);
        drifting.wind(0, 1);
        Check.due("turn(2)", drifting.turn(2), 0);
        line(drifting, 0, "k0 drifts 19 s4");
    }

    /** A kite that took off, or landed, or turned in this turn has the wind as it is then. */
    private static void windBehindSlips() {
        Check.sentence("Second, of each kite that flies");
        KiteWar war = Check.alone(0, 18, 4, 5);
        war.wind(0, 2);
        Check.order(war, 0, 1, 0);
        line(war, 0, "k0 flies 0x1 s3");
        Check.order(war, 0, 6, 0);
        line(war, 0, "k0 rest s3");
        Check.order(war, 0, 1, 3);
        line(war, 0, "k0 rest s3");
        Check.order(war, 0, 1, 1);
        line(war, 0, "k0 flies 1x1 s3");
        Check.order(war, 0, 5, 0);
        line(war, 0, "k0 flies 0x1 s1");
        Check.order(war, 0, 2, 0);
        Check.due("kiteOf(0, 7)", war.kiteOf(0, 7), 1);
    }

    private static void restsWithItsStrength() {
        Check.sentence("A kite that rests at its tower by being hauled in, or by the wind, keeps its strength.");
        KiteWar hauledIn = middle(7, 0, 1);
        Check.order(hauledIn, 0, 3, 0);
        line(hauledIn, 0, "k0 rest s7");
        KiteWar blown = middle(7, 0, 1);
        blown.wind(3, 2);
        blown.turn(1);
        line(blown, 0, "k0 rest s7");
        KiteWar landed = middle(7, 0, 2);
        Check.order(landed, 0, 6, 0);
        line(landed, 0, "k0 rest s7");
    }

    // ---- third, what is cut by strain

    private static void cutAtZero() {
        Check.sentence("Third, each kite that flies with a strength of 0 is cut.");
        KiteWar one = middle(2, 0, 1);
        one.wind(0, 1);
        Check.due("turn(1)", one.turn(1), 0);
        line(one, 0, "k0 flies 0x1 s1");
        Check.due("turn(1)", one.turn(1), 1);
        line(one, 0, "k0 drifts 20 s0");
        Check.due("kiteOf(0, 7)", one.kiteOf(0, 7), 1);
        Check.due("account(11)", one.account(11), 1);
        Check.due("account(12)", one.account(12), 1);
        points(one, 0, 0);
        Check.due("turn(1)", one.turn(1), 0);
        Check.due("account(12)", one.account(12), 1);
    }

    /** The kite 0 would have crossed the two others, and the kite 1 is cut before it can cut. */
    private static void strainBeforeLines() {
        Check.sentence("Fourth, the lines that there are then are looked at");
        KiteWar war = pair(1, 9);
        war.wind(0, 1);
        Check.due("crossings()", war.crossings(), 1);
        Check.due("turn(1)", war.turn(1), 1);
        line(war, 0, "k0 drifts 18 s0");
        line(war, 1, "k1 flies 5x2 s9");
        Check.due("kiteOf(1, 8)", war.kiteOf(1, 8), 0);
        points(war, 0, 0);
        KiteWar shortened = pair(5, 9);
        shortened.wind(3, 2);
        Check.due("turn(1)", shortened.turn(1), 0);
        line(shortened, 0, "k0 flies 0x1 s5");
        KiteWar weakened = pair(5, 4);
        weakened.wind(0, 1);
        Check.due("turn(1)", weakened.turn(1), 2);
    }

    // ---- fourth, the lines

    private static void asGreatOrGreater() {
        Check.sentence("each of both is cut if the strength of the other one is as great or greater");
        for (int first = 1; first <= 9; first++) {
            for (int second = 1; second <= 9; second++) {
                KiteWar war = pair(first, second);
                Check.due("turn(1)", war.turn(1), first == second ? 2 : 1);
                Check.due("kiteOf(0, 2)", war.kiteOf(0, 2), first <= second ? 2 : 1);
                Check.due("kiteOf(1, 2)", war.kiteOf(1, 2), second <= first ? 2 : 1);
                Check.due("kiteOf(0, 6)", war.kiteOf(0, 6), first <= second ? first : Math.max(1, first - 1));
                Check.due("kiteOf(1, 6)", war.kiteOf(1, 6), second <= first ? second : Math.max(1, second - 1));
                Check.due("kiteOf(0, 8)", war.kiteOf(0, 8), first >= second ? 1 : 0);
                Check.due("kiteOf(1, 8)", war.kiteOf(1, 8), second >= first ? 1 : 0);
                points(war, second <= first ? 2 : 0, first <= second ? 2 : 0);
            }
        }
    }

    private static void oneHexagonIsEnough() {
        Check.sentence("if two lines of different sides cover a hexagon together");
        int[] towers = {9, 10, 11, 12, 13, 14};
        for (int tower = 0; tower < 6; tower++) {
            KiteWar war = new KiteWar();
            Check.flying(war, 0, 16, 9, 0, 3);
            war.kite(war.tower(1, towers[tower], 1), 3);
            Check.order(war, 1, 1, 5);
            boolean isTouched = tower >= 1 && tower <= 3;
            line(war, 1, isTouched ? "k1 drifts " + (16 + tower) + " s3" : "k1 flies 5x1 s3");
            line(war, 0, "k0 flies 0x3 s" + (isTouched ? 8 : 9));
        }
    }

    /** The line of the kite 0 turns into the one of the kite 1, along two hexagons. */
    private static void severalHexagons() {
        Check.sentence("a side gets 2 points for each line of the other side that is cut by one of its lines, counted once");
        KiteWar war = new KiteWar();
        Check.flying(war, 0, 16, 5, 5, 3);
        Check.flying(war, 1, 20, 4, 2, 2);
        war.slip(0, 4, 0);
        war.slip(1, 4, 0);
        Check.due("turn(1)", war.turn(1), 1);
        line(war, 0, "k0 flies 0x3 s4");
        line(war, 1, "k1 drifts 18 s4");
        Check.due("kiteOf(0, 8)", war.kiteOf(0, 8), 1);
        Check.due("kiteOf(1, 7)", war.kiteOf(1, 7), 1);
        points(war, 2, 0);
    }

    /** Six kites of each side, all with lines to the hexagon 18: as full as the field gets. */
    private static KiteWar allAtOneHexagon(int first, int second) {
        KiteWar war = new KiteWar();
        int[] towers = {19, 12, 11, 17, 24, 25};
        for (int tower = 0; tower < 6; tower++) {
            war.tower(tower / 3, towers[tower], 1);
            war.kite(tower, tower < 3 ? first : second);
            war.kite(tower, tower < 3 ? first : second);
            war.slip(2 * tower, 1, (tower + 3) % 6);
            war.slip(2 * tower + 1, 1, (tower + 3) % 6);
        }
        return war;
    }

    private static void allAtOnce() {
        Check.sentence("Fourth, the lines that there are then are looked at, all at once");
        KiteWar equal = allAtOneHexagon(5, 5);
        Check.due("crossings()", equal.crossings(), 36);
        Check.due("crossingsAgain()", equal.crossingsAgain(), 36);
        Check.due("turn(1)", equal.turn(1), 12);
        points(equal, 12, 12);
        for (int kite = 0; kite < 12; kite++) {
            Check.numbersOfKite(equal, kite, kite / 6, kite / 2, 2, NOTHING, 0, 18, 5, 1, 6);
        }
        KiteWar stronger = allAtOneHexagon(4, 9);
        Check.due("turn(1)", stronger.turn(1), 6);
        points(stronger, 0, 12);
        for (int kite = 6; kite < 12; kite++) {
            Check.due("kiteOf(" + kite + ", 6)", stronger.kiteOf(kite, 6), 3);
            Check.due("kiteOf(" + kite + ", 8)", stronger.kiteOf(kite, 8), 6);
        }
    }

    /** With one line cut before the next is looked at, one of them would have been spared. */
    private static void noneIsSpared() {
        Check.sentence("Fourth, the lines that there are then are looked at, all at once");
        KiteWar war = Check.aboutToCross(4, 4, 3);
        Check.due("turn(1)", war.turn(1), 3);
        KiteWar other = Check.aboutToCross(4, 3, 4);
        Check.due("turn(1)", other.turn(1), 3);
        KiteWar weaker = Check.aboutToCross(4, 3, 3);
        Check.due("turn(1)", weaker.turn(1), 2);
        line(weaker, 0, "k0 flies 0x2 s2");
    }

    private static void notLessThanOne() {
        Check.sentence("a kite that is not cut has 1 less of strength for each kite that is cut by its line, "
                + "but not less than 1");
        int[] left = {0, 0, 1, 1, 2, 3, 4, 5, 6, 7};
        for (int strength = 2; strength <= 9; strength++) {
            KiteWar war = Check.aboutToCross(strength, 1, 1);
            Check.due("turn(1)", war.turn(1), 2);
            line(war, 0, "k0 flies 0x2 s" + left[strength]);
        }
        KiteWar many = allAtOneHexagon(3, 4);
        many.turn(1);
        for (int kite = 6; kite < 12; kite++) {
            Check.due("kiteOf(" + kite + ", 6)", many.kiteOf(kite, 6), 1);
        }
    }

    private static void cutBySeveral() {
        Check.sentence("A line that is cut by several lines brings its 2 points once, and each of these lines, "
                + "if it is not cut itself, has 1 less of strength and one more that it cut");
        KiteWar war = Check.aboutToCross(3, 4, 5);
        Check.due("turn(1)", war.turn(1), 1);
        points(war, 0, 2);
        line(war, 1, "k1 flies 5x2 s3");
        line(war, 2, "k2 flies 1x2 s4");
        Check.numbersOfKite(war, 0, 0, 0, 2, NOTHING, 0, 17, 3, 1, 0);
        Check.due("kiteOf(1, 8)", war.kiteOf(1, 8), 1);
        Check.due("kiteOf(2, 8)", war.kiteOf(2, 8), 1);
    }

    private static void cutItself() {
        Check.sentence("a line that is cut itself counts those that it cuts, too");
        KiteWar war = Check.aboutToCross(4, 3, 5);
        Check.due("turn(1)", war.turn(1), 2);
        Check.numbersOfKite(war, 0, 0, 0, 2, NOTHING, 0, 17, 4, 1, 1);
        Check.numbersOfKite(war, 1, 1, 1, 2, NOTHING, 0, 17, 3, 1, 0);
        line(war, 2, "k2 flies 1x2 s4");
        points(war, 2, 2);
    }

    private static void ownSide() {
        Check.sentence("Kites of one side do not cut each other.");
        for (int side = 0; side < 2; side++) {
            KiteWar war = new KiteWar();
            war.kite(war.tower(side, 17, 4), 5);
            war.kite(0, 9);
            war.kite(war.tower(side, 19, 4), 1);
            war.slip(0, 1, 0);
            war.slip(1, 1, 0);
            war.slip(2, 1, 3);
            Check.due("crossings()", war.crossings(), 0);
            Check.due("turn(1)", war.turn(1), 0);
            Check.due("account(4)", war.account(4), 3);
            points(war, 0, 0);
        }
    }

    private static void togetherInAHexagon() {
        Check.sentence("Two kites can be in one hexagon, and lines can cover towers.");
        KiteWar war = Check.alone(0, 15, 4, 5);
        war.kite(0, 5);
        war.tower(1, 17, 1);
        for (int turn = 1; turn <= 4; turn++) {
            war.slip(0, turn == 1 ? 1 : 2, 0);
            war.slip(1, turn == 1 ? 1 : 2, 0);
            Check.due("turn(1)", war.turn(1), 0);
            Check.due("kiteOf(0, 5)", war.kiteOf(0, 5), 15 + turn);
            Check.due("kiteOf(1, 5)", war.kiteOf(1, 5), 15 + turn);
        }
        Check.due("row 3", Check.row(war, 3), "A + B + 0 . .");
        KiteWar drifting = pair(4, 4);
        drifting.turn(1);
        Check.due("kiteOf(0, 5)", drifting.kiteOf(0, 5), 17);
        Check.due("kiteOf(1, 5)", drifting.kiteOf(1, 5), 17);
    }

    // ---- fifth, what drifts

    /** Where the kite 0, cut in 17, is behind one turn with a wind; towers are in 15, of its side, 4 and 28. */
    private static void asManySteps() {
        Check.sentence("each kite that drifts, those that were cut in this turn included, "
                + "goes as many steps in the direction of the wind as the force is");
        String[][] due = {
            {"k0 drifts 17 s4", "k0 drifts 18 s4", "k0 drifts 19 s4", "k0 drifts 20 s4"},
            {"k0 drifts 17 s4", "k0 drifts 11 s4", "k0 drifts 6 s4", "k0 drifts 2 s4"},
            {"k0 drifts 17 s4", "k0 drifts 10 s4", "k0 lost", "k0 lost"},
            {"k0 drifts 17 s4", "k0 drifts 16 s4", "k0 rest s1", "k0 lost"},
            {"k0 drifts 17 s4", "k0 drifts 23 s4", "k0 lost", "k0 lost"},
            {"k0 drifts 17 s4", "k0 drifts 24 s4", "k0 drifts 30 s4", "k0 drifts 35 s4"}};
        for (int direction = 0; direction < 6; direction++) {
            for (int force : FORCES) {
                KiteWar later = pair(4, 5);
                later.turn(1);
                later.wind(direction, force);
                Check.due("turn(1)", later.turn(1), 0);
                line(later, 0, due[direction][force]);
                Check.due("account(14)", later.account(14), force == 2 && direction % 2 == 0 && direction > 0 ? 1 : 0);
            }
        }
    }

    private static void cutInThisTurn() {
        Check.sentence("A cut kite drifts from the hexagon where it was.");
        KiteWar war = pair(4, 9);
        war.wind(0, 0);
        war.wind(5, 3);
        Check.due("turn(1)", war.turn(1), 1);
        line(war, 0, "k0 drifts 35 s4");
        KiteWar strained = middle(1, 3, 2);
        strained.wind(3, 1);
        Check.due("turn(1)", strained.turn(1), 1);
        line(strained, 0, "k0 drifts 15 s0");
    }

    private static void outOfTheField() {
        Check.sentence("one that gets out of the field is lost");
        for (int direction = 0; direction < 6; direction++) {
            KiteWar war = middle(1, direction, 2);
            war.wind(direction, 1);
            war.turn(1);
            Check.due("at the edge", war.kiteOf(0, 2), 2);
            Check.due("at the edge", war.beside(war.kiteOf(0, 5), direction), NOTHING);
            war.turn(1);
            Check.numbersOfKite(war, 0, 0, 0, 3, NOTHING, 0, NOTHING, 0, 1, 0);
            Check.due("account(6)", war.account(6), 1);
            Check.due("account(14)", war.account(14), 0);
            points(war, 0, 0);
        }
    }

    /** The second wind would lead it back into the field. */
    private static void lostForGood() {
        Check.sentence("one that gets out of the field is lost");
        KiteWar war = middle(1, 0, 3);
        war.wind(3, 3);
        war.wind(3, 3);
        war.wind(3, 3);
        war.wind(0, 1);
        war.turn(1);
        line(war, 0, "k0 lost");
        war.turn(9);
        line(war, 0, "k0 lost");
        Check.due("account(6)", war.account(6), 1);
    }

    private static void takenByItsSide() {
        Check.sentence("by a tower of its own side, it rests at its own tower with a strength of 1");
        for (int strength = 1; strength <= 5; strength++) {
            KiteWar war = pair(strength, 5);
            war.tower(0, 17, 1);
            war.turn(1);
            Check.numbersOfKite(war, 0, 0, 0, 0, NOTHING, 0, 15, 1, 1, strength == 5 ? 1 : 0);
            Check.due("towerOf(3, 5)", war.towerOf(3, 5), 1 + (strength == 5 ? 1 : 0));
            Check.due("towerOf(0, 5)", war.towerOf(0, 5), 0);
            Check.due("account(13)", war.account(13), 1);
        }
        KiteWar strained = middle(1, 0, 1);
        strained.tower(0, 20, 1);
        strained.wind(0, 1);
        strained.turn(1);
        line(strained, 0, "k0 rest s1");
    }

    private static void takenByItsTower() {
        Check.sentence("by a tower of its own side, it rests at its own tower with a strength of 1");
        KiteWar war = pair(4, 5);
        war.turn(1);
        war.wind(3, 2);
        war.turn(1);
        Check.numbersOfKite(war, 0, 0, 0, 0, NOTHING, 0, 15, 1, 1, 0);
        Check.numbersOfTower(war, 0, 0, 15, 4, 1, 0, 1);
        Check.due("account(13)", war.account(13), 1);
        Check.due("slip(0, 1, 0)", war.slip(0, 1, 0), 1);
    }

    private static void takenByTheOtherSide() {
        Check.sentence("by one of the other side, it is lost, and this side gets 3 points");
        KiteWar war = pair(4, 5);
        war.tower(1, 17, 1);
        war.turn(1);
        Check.numbersOfKite(war, 0, 0, 0, 3, NOTHING, 0, NOTHING, 4, 1, 0);
        Check.numbersOfTower(war, 3, 1, 17, 1, 0, 0, 1);
        points(war, 0, 5);
        Check.due("account(14)", war.account(14), 1);
        KiteWar first = pair(5, 4);
        first.tower(0, 17, 1);
        first.turn(1);
        line(first, 1, "k1 lost");
        points(first, 5, 0);
    }

    private static void takenWithoutMoving() {
        Check.sentence("A kite that drifts and does not move, as the force is 0, is taken, too, "
                + "if it is in the hexagon of a tower.");
        KiteWar war = pair(4, 5);
        war.turn(1);
        line(war, 0, "k0 drifts 17 s4");
        war.tower(0, 17, 1);
        line(war, 0, "k0 drifts 17 s4");
        war.wind(0, 0);
        war.turn(1);
        line(war, 0, "k0 rest s1");
        KiteWar other = pair(4, 5);
        other.turn(1);
        other.tower(1, 17, 1);
        line(other, 0, "k0 drifts 17 s4");
        other.turn(1);
        line(other, 0, "k0 lost");
        points(other, 0, 5);
    }

    private static void overTowers() {
        Check.sentence("One that is in the hexagon of a tower then is taken");
        KiteWar war = pair(4, 5);
        war.tower(0, 18, 1);
        war.tower(1, 19, 1);
        war.wind(0, 3);
        war.turn(1);
        line(war, 0, "k0 drifts 20 s1");
        Check.due("account(13)", war.account(13), 0);
        Check.due("account(14)", war.account(14), 0);
        KiteWar flying = pair(5, 4);
        flying.tear(1);
        flying.tower(1, 17, 1);
        flying.turn(1);
        line(flying, 0, "k0 flies 0x2 s5");
        flying.turn(1);
        line(flying, 0, "k0 flies 0x2 s5");
    }

    private static void keepsItsStrength() {
        Check.sentence("A kite that is cut keeps the strength that it has, also 0, as long as it drifts");
        for (int strength = 1; strength <= 9; strength++) {
            KiteWar war = pair(strength, 9);
            war.turn(3);
            line(war, 0, "k0 drifts 17 s" + strength);
        }
        KiteWar zero = middle(1, 1, 1);
        zero.wind(1, 1);
        zero.turn(1);
        line(zero, 0, "k0 drifts 7 s0");
        zero.wind(1, 0);
        zero.wind(1, 0);
        zero.turn(1);
        line(zero, 0, "k0 drifts 7 s0");
    }

    private static void noLineAnyMore() {
        Check.sentence("one that is cut has no line and no direction any more");
        KiteWar war = Check.aboutToCross(4, 4, 3);
        war.tear(2);
        war.turn(1);
        for (int kite = 0; kite < 2; kite++) {
            Check.due("kiteOf(" + kite + ", 3)", war.kiteOf(kite, 3), NOTHING);
            Check.due("kiteOf(" + kite + ", 4)", war.kiteOf(kite, 4), 0);
        }
        Check.due("row 3", Check.row(war, 3), "A . 0 . . . .");
        war.slip(2, 2, 0);
        Check.due("crossings()", war.crossings(), 0);
        Check.due("turn(1)", war.turn(1), 0);
        line(war, 2, "k2 flies 1x2 s3");
    }

    private static void cutOnceMore() {
        Check.sentence("A kite that was taken by its own side can be cut once more.");
        KiteWar war = Check.alone(0, 18, 4, 5);
        war.tower(0, 20, 4);
        war.wind(0, 1);
        for (int round = 1; round <= 3; round++) {
            for (int strength = war.kiteOf(0, 6); strength > 1; strength--) {
                Check.order(war, 0, 1, 0);
                Check.order(war, 0, 6, 0);
            }
            Check.order(war, 0, 1, 0);
            Check.numbersOfKite(war, 0, 0, 0, 0, NOTHING, 0, 18, 1, round, 0);
            Check.due("account(11)", war.account(11), round);
            Check.due("account(13)", war.account(13), round);
            Check.due("isBalanced()", war.isBalanced(), 1);
        }
    }

    // ---- turns by their numbers

    private static void numberOfTheTurn() {
        Check.sentence("Then the next turn begins; turns are numbered from 0.");
        KiteWar war = new KiteWar();
        Check.due("account(0)", war.account(0), 0);
        for (int turn = 1; turn <= 20; turn++) {
            war.turn(1);
            Check.due("account(0)", war.account(0), turn);
        }
        war.turn(9);
        Check.due("account(0)", war.account(0), 29);
    }

    /** The turns that are told are those from the number 2 on, and behind the wind 5 the wind 0 blows again. */
    private static void byTheWindsOfTheirNumbers() {
        Check.sentence("Turns that are told go by the winds of their numbers.");
        int[] directions = {2, 0, 0, 3, 4, 3};
        int[] way = {17, 18, 17, 23, 23, 16, 17};
        for (int turns = 1; turns <= 6; turns++) {
            KiteWar war = pair(4, 4);
            war.turn(1);
            for (int wind = 0; wind < 6; wind++) {
                war.wind(directions[wind], wind == 5 ? 0 : 1);
            }
            Check.due("turn(" + turns + ")", war.turn(turns), 0);
            Check.due("where the kite 0 is behind " + turns + " turns", war.kiteOf(0, 5), way[turns]);
        }
    }

    private static void howManyTurns() {
        Check.sentence("how many, 1 to 9");
        for (int turns : new int[] {0, -1, 10, 11, Integer.MIN_VALUE, Integer.MAX_VALUE}) {
            KiteWar war = Check.alone(0, 18, 4, 5);
            war.slip(0, 1, 0);
            Check.due("turn(" + turns + ")", war.turn(turns), KiteWar.BAD);
            Check.due("account(0)", war.account(0), 0);
            Check.due("account(7)", war.account(7), 1);
        }
        for (int turns = 1; turns <= 9; turns++) {
            KiteWar war = new KiteWar();
            Check.due("turn(" + turns + ")", war.turn(turns), 0);
            Check.due("account(0)", war.account(0), turns);
            Check.due("account(17)", war.account(17), 1);
        }
    }

    private static void howManyLines() {
        Check.sentence("Returns how many lines are cut in them");
        Check.due("turn(9)", new KiteWar().turn(9), 0);
        KiteWar war = pair(9, 8);
        war.kite(0, 1);
        war.slip(2, 1, 5);
        war.wind(5, 0);
        war.wind(5, 0);
        war.wind(5, 1);
        Check.due("turn(9), one cut by a line and one by strain", war.turn(9), 2);
        Check.due("account(11)", war.account(11), 2);
        Check.due("account(12)", war.account(12), 1);
        Check.due("turn(9)", war.turn(9), 0);
        war.undo();
        war.undo();
        Check.due("turn(1), cut by a line", war.turn(1), 1);
        Check.due("account(12)", war.account(12), 0);
        Check.due("turn(1), cut by strain", war.turn(1), 1);
        Check.due("account(12)", war.account(12), 1);
        Check.due("turn(1)", war.turn(1), 0);
    }

    public static void main(String[] args) {
        allSlips();
        onceAlone();
        flyWithALineOfOne();
        longerAndShorter();
        turnedOrLanded();
        notOutOfTheField();
        notDoneBehindALanding();
        notTurnedOutOfTheField();
        notLongerThanTheReach();
        goneIfNotDone();
        strain();
        against();
        fromTheSide();
        onlyKitesThatFly();
        windBehindSlips();
        restsWithItsStrength();
        cutAtZero();
        strainBeforeLines();
        asGreatOrGreater();
        oneHexagonIsEnough();
        severalHexagons();
        allAtOnce();
        noneIsSpared();
        notLessThanOne();
        cutBySeveral();
        cutItself();
        ownSide();
        togetherInAHexagon();
        asManySteps();
        cutInThisTurn();
        outOfTheField();
        lostForGood();
        takenByItsSide();
        takenByItsTower();
        takenByTheOtherSide();
        takenWithoutMoving();
        overTowers();
        keepsItsStrength();
        noLineAnyMore();
        cutOnceMore();
        numberOfTheTurn();
        byTheWindsOfTheirNumbers();
        howManyTurns();
        howManyLines();
        Check.end();
    }
}
