import java.util.function.Supplier;

/** The boundary cases of the promises 35 to 41: counting. */
final class CountBounds {
    private static final String OUT = Situations.OUT;

    private CountBounds() {
    }

    static void run() {
        leader();
        points();
        pointsOfTouchers();
        nearest();
        nearestRange();
        nearestOfEight();
        aliveOf();
        gap();
        gapOfSeveral();
        spread();
    }

    private static void leader() {
        Check.sentence(35, "Throws IllegalStateException if none would");
        Check.refused("leader(), no end", Situations::fresh, Check.STATE, x -> x.leader());
        Check.refused("leader(), no bowls", Situations::rolled, Check.STATE, x -> x.leader());
        Check.refused("leader(), a burnt end", Situations::burnt, Check.STATE, x -> x.leader());
        Check.refused("leader(), burnt by the last bowl", Situations::burntByLast, Check.STATE, x -> x.leader());
        Check.refused("leader(), burnt, the first bowl is the nearest", () -> Check.after(Situations.BURNT_AT_FIRST), Check.STATE,
            x -> x.leader());
        Check.refused("leader(), all eight are dead", () -> Check.after("j30;" + OUT + OUT + OUT + OUT + OUT + OUT + OUT + OUT),
            Check.STATE, x -> x.leader());
        Check.refused("leader(), all eight are played, 9 and 9", () -> Check.after("j30;b1,30,0;b-1,30,0;" + OUT + OUT + OUT
            + OUT + OUT + OUT), Check.STATE, x -> x.leader());
        Check.refused("leader(), the match is over", Situations::over, Check.STATE, x -> x.leader());
        Check.refused("leader(), all are dead", () -> Check.after("j30;" + OUT + OUT), Check.STATE, x -> x.leader());
        Check.refused("leader(), 9 and 9", () -> Check.after("j30;b1,30,0;b-1,30,0"), Check.STATE, x -> x.leader());
        // both nearest ones are alike, the others are not
        Check.refused("leader(), 9, 9, 36, 37", () -> Check.after("j30;b1,30,0;b-1,30,0;b0,24,0;b2,29,0"), Check.STATE,
            x -> x.leader());
        Check.sentence(35, "Returns 0 or 1.");
        Check.due("leader(), 9 and 10", Check.after("j30;b1,30,0;b1,29,0").leader(), 0);
        Check.due("leader(), 10 and 9", Check.after("j30;b1,29,0;b-1,30,0").leader(), 1);
        Check.due("leader(), one alone", Check.after("j30;" + OUT + "b5,20,0").leader(), 1);
        Check.due("leader(), put back", Situations.putBack().leader(), leaderByHand(Situations.putBack()));
        Check.due("leader(), the ditch, touched", Check.after("j50;b0,70,0").leader(), 0);
        WombatBowls second = Situations.rolled();
        second.play(0, 20, 0);
        Check.due("leader(), the side 1 plays first", second.leader(), 1);
    }

    private static int leaderByHand(WombatBowls x) {
        int least = 9999;
        int side = -1;
        for (int bowl = 0; bowl < x.bowls(); bowl++) {
            if (x.stateOf(bowl) != 2 && x.distanceOf(bowl) < least) {
                least = x.distanceOf(bowl);
                side = x.sideOf(bowl);
            }
        }
        return side;
    }

    private static void points(String moves, int due) {
        WombatBowls x = Check.after(moves);
        Check.sentence(36, "Returns the points, 0 if no side would score, as in a burnt end.");
        Check.due("pointsByOrder() behind " + moves, x.pointsByOrder(), due);
        Check.sentence(37, "Returns the points, the same as by pointsByOrder().");
        Check.due("pointsByPairs() behind " + moves, x.pointsByPairs(), due);
    }

    private static void points() {
        points("w0", 0);
        points("j30", 0);
        points("j30;" + OUT, 0);
        points(Situations.TO_BURN, pointsByHand(Situations.TO_BURN));
        points(Situations.BURNT, 0);
        points(Situations.BURNT_BY_LAST, 0);
        points(Situations.BURNT_AT_FIRST, 0);
        points("j30;" + OUT + OUT + OUT + OUT + OUT + OUT + OUT + OUT, 0);
        points("j30;b0,25,0", 1);
        points("j30;b1,30,0;b-1,30,0", 0);
        // 9, 10, 16 of the side 0 against 17, 16 and 10 of the side 1
        points("j30;b1,30,0;b1,26,0;b-1,29,0;" + OUT + "b0,26,0", 3);
        points("j30;b1,30,0;" + OUT + "b-1,29,0;b1,29,0", 1);
        // the other side's nearest one is as near as the second one of three
        points("j30;b0,28,0;b1,30,0;b-1,30,0", 1);
        points("j30;b0,28,0;" + OUT + "b-1,30,0;b1,30,0;b0,25,0", 1);
        points("j30;b0,15,0;" + OUT + "b1,15,0;" + OUT + "b-1,15,0;" + OUT + "b2,15,0;" + OUT, 4);
        points("j30;" + OUT + "b0,15,0;" + OUT + "b1,15,0;" + OUT + "b-1,15,0;" + OUT + "b2,15,0", 4);
        // the jack and touchers in the ditch
        points("j50;b0,70,0", 1);
        points("j48;b5,58,-2;b0,70,0;b0,68,0", 1);
        points("j50;b0,66,0;b-3,60,1;b-3,63,1;b6,59,-2;b6,62,-2", 2);
    }

    private static int pointsByHand(String moves) {
        WombatBowls x = Check.after(moves);
        int[] least = {9999, 9999};
        for (int bowl = 0; bowl < x.bowls(); bowl++) {
            if (x.stateOf(bowl) != 2) {
                least[x.sideOf(bowl)] = Math.min(least[x.sideOf(bowl)], x.distanceOf(bowl));
            }
        }
        int found = 0;
        for (int bowl = 0; bowl < x.bowls(); bowl++) {
            found += x.stateOf(bowl) != 2 && x.distanceOf(bowl) < least[1 - x.sideOf(bowl)] ? 1 : 0;
        }
        return found;
    }

    private static void pointsOfTouchers() {
        Check.sentence(36, "Tells the points that would be counted now, by putting all bowls in order by their distance, and"
            + " counting from the nearest one on.");
        WombatBowls x = new WombatBowls();
        x.turnTwice();
        x.roll(50);
        String[] four = {"b0,54,0", "b-8,52,3", "b8,64,-3", "b-3,58,1"};
        for (int bowl = 0; bowl < 4; bowl++) {
            Check.moves(x, four[bowl]);
            Check.due("pointsByOrder(), touchers twice", x.pointsByOrder(), 2 * bowl + 2);
            Check.sentence(37, "Tells the same by holding each bowl against each bowl of the other side: those count that are"
                + " nearer than all of these.");
            Check.due("pointsByPairs(), touchers twice", x.pointsByPairs(), 2 * bowl + 2);
            Check.moves(x, "b9,70,3");
        }
        Check.due("count()", x.count(), 8);
        // a toucher that does not count is not counted twice: the other side has moved the jack on to its own bowl
        WombatBowls y = new WombatBowls();
        y.turnTwice();
        Check.moves(y, "j30;b0,30,0;b1,34,0;b9,70,3;b0,41,0");
        Check.due("isToucher(0)", y.isToucher(0), true);
        Check.due("pointsByPairs()", y.pointsByPairs(), weighedByHand(y));
        Check.due("pointsByOrder()", y.pointsByOrder(), weighedByHand(y));
    }

    private static int weighedByHand(WombatBowls x) {
        int found = 0;
        for (int bowl = 0; bowl < x.bowls(); bowl++) {
            boolean nearer = x.stateOf(bowl) != 2;
            for (int other = 0; nearer && other < x.bowls(); other++) {
                nearer = x.sideOf(other) == x.sideOf(bowl) || x.stateOf(other) == 2
                    || x.distanceOf(bowl) < x.distanceOf(other);
            }
            found += nearer ? x.isToucher(bowl) ? 2 : 1 : 0;
        }
        return found;
    }

    private static void nearest() {
        Check.sentence(38, "place: 0 for the nearest one, of several that are as near the one that was played first");
        // 9, 9, 9: the columns 13 and 7, and then the row 27
        WombatBowls x = Check.after("j30;b1,30,0;b-1,30,0;b0,27,0");
        for (int place = 0; place < 3; place++) {
            Check.due("nearest " + place, x.nearest(place), place);
        }
        // one nearer, played last, and one that is farther, played ahead of it
        Check.moves(x, "b2,20,0;b0,26,0");
        Check.due("rowOf(4), 16", x.distanceOf(4), 16);
        Check.due("nearest(3), 16", x.nearest(3), 4);
        Check.due("nearest(4), the farthest one", x.nearest(4), 3);
        WombatBowls last = Check.after("j30;b0,20,0;b1,30,0;b0,29,0");
        Check.due("bowls that strike: stateOf(0)", last.stateOf(0), 0);
        int near = last.nearest(0);
        for (int bowl = 0; bowl < 3; bowl++) {
            Check.due("none is nearer", last.distanceOf(bowl) >= last.distanceOf(near), true);
        }
        Check.sentence(38, "Returns the bowl.");
        WombatBowls dead = Check.after("j30;" + OUT + "b0,20,0;" + OUT + "b0,15,0");
        Check.due("nearest(0), dead ones have no place", dead.nearest(0), 1);
        Check.due("nearest(1)", dead.nearest(1), 3);
    }

    private static void nearestRange() {
        Check.sentence(38, "Throws IndexOutOfBoundsException if not so many bowls are not dead, place is below 0, or the jack"
            + " does not lie");
        Supplier<WombatBowls> none = () -> Check.after("j30;" + OUT + OUT);
        for (int place : new int[] {-1, 0, 1, 8, Integer.MAX_VALUE, Integer.MIN_VALUE}) {
            Check.refused("nearest " + place + ", no end", Situations::fresh, Check.INDEX, x -> x.nearest(place));
            Check.refused("nearest " + place + ", no bowls", Situations::rolled, Check.INDEX, x -> x.nearest(place));
            Check.refused("nearest " + place + ", all are dead", none, Check.INDEX, x -> x.nearest(place));
            Check.refused("nearest " + place + ", the match is over", Situations::over, Check.INDEX, x -> x.nearest(place));
        }
        Check.range("nearest, one", () -> Check.after("j30;b0,20,0"), 0, 0, (x, place) -> x.nearest(place));
        Check.range("nearest, one of two", () -> Check.after("j30;" + OUT + "b0,20,0"), 0, 0, (x, place) -> x.nearest(place));
        Check.range("nearest, eight", () -> Check.after("j50;b0,15,0;b0,16,-1;b1,20,0;b-1,21,0;b2,22,0;b-2,23,0;b3,24,0;"
            + "b-3,25,0"), 0, 7, (x, place) -> x.nearest(place));
        Check.range("nearest, seven in a burnt end", () -> Check.after(Situations.BURNT), 0, 6, (x, place) -> x.nearest(place));
        Check.range("nearest, one is in the ditch", () -> Check.after("j48;b5,58,-2;b0,70,0;b0,68,0"), 0, 2,
            (x, place) -> x.nearest(place));
        Check.range("nearest, one is struck into the ditch", () -> Check.after("j30;b2,52,0;b2,68,0"), 0, 0,
            (x, place) -> x.nearest(place));
    }

    private static void nearestOfEight() {
        Check.sentence(38, "Returns a bowl by its distance.");
        // the rows 15 to 29 by turns, so that each one is put ahead of the others or behind them
        WombatBowls x = Check.after("j50;b0,22,0;b1,18,0;b-1,26,0;b2,16,0;b-2,29,0;b3,20,0;b-3,24,0;b4,15,0");
        for (int place = 1; place < 8; place++) {
            int near = x.distanceOf(x.nearest(place - 1));
            int far = x.distanceOf(x.nearest(place));
            Check.due("the places are in order", near < far || near == far && x.nearest(place - 1) < x.nearest(place), true);
        }
        int[] seen = new int[8];
        for (int place = 0; place < 8; place++) {
            seen[x.nearest(place)]++;
        }
        for (int bowl = 0; bowl < 8; bowl++) {
            Check.due("each bowl has one place", seen[bowl], 1);
        }
        Check.due("nearest(0)", x.nearest(0), 4);
        Check.due("nearest(7)", x.nearest(7), 7);
    }

    private static void aliveOf() {
        Check.sentence(39, "side: 0 or 1");
        Check.sentence(39, "Throws IndexOutOfBoundsException if there is no such side");
        Check.range("aliveOf", Situations::fresh, 0, 1, (x, side) -> x.aliveOf(side));
        Check.range("aliveOf", Situations::played, 0, 1, (x, side) -> x.aliveOf(side));
        Check.sentence(39, "Returns the bowls.");
        WombatBowls x = new WombatBowls();
        Check.due("aliveOf(0), no end", x.aliveOf(0), 0);
        x.roll(50);
        Check.due("aliveOf(1), no bowls", x.aliveOf(1), 0);
        Check.moves(x, OUT + "b-5,21,0");
        Check.due("aliveOf(0), dead", x.aliveOf(0), 0);
        Check.due("aliveOf(1), one", x.aliveOf(1), 1);
        Check.moves(x, "b0,15,0;b1,15,0;b2,15,0;b3,15,0;b4,15,0;b5,15,0");
        Check.due("aliveOf(0), three of four", x.aliveOf(0), 3);
        Check.due("aliveOf(1), four of four", x.aliveOf(1), 4);
        // in the ditch it lies, if it is a toucher
        WombatBowls y = Check.after("j48;b5,58,-2;b0,70,0;b0,68,0");
        Check.due("aliveOf(1), in the ditch", y.aliveOf(1), 1);
        WombatBowls z = Check.after("j30;b2,52,0;b2,68,0");
        Check.due("aliveOf(0), struck into the ditch", z.aliveOf(0), 0);
        WombatBowls second = Situations.rolled();
        second.play(0, 20, 0);
        Check.due("aliveOf(1), the side 1 plays first", second.aliveOf(1), 1);
        Check.due("aliveOf(0), the side 1 plays first", second.aliveOf(0), 0);
    }

    private static void gap() {
        Check.sentence(40, "Throws IllegalStateException if the jack does not lie, or a side has no bowl that is not dead");
        Check.refused("gap(), no end", Situations::fresh, Check.STATE, x -> x.gap());
        Check.refused("gap(), the match is over", Situations::over, Check.STATE, x -> x.gap());
        Check.refused("gap(), no bowls", Situations::rolled, Check.STATE, x -> x.gap());
        Check.refused("gap(), the side 0 alone", () -> Check.after("j30;b0,20,0"), Check.STATE, x -> x.gap());
        Check.refused("gap(), the other one is dead", () -> Check.after("j30;b0,20,0;" + OUT), Check.STATE, x -> x.gap());
        Check.refused("gap(), the side 1 alone", () -> Check.after("j30;" + OUT + "b0,20,0"), Check.STATE, x -> x.gap());
        Check.refused("gap(), both are dead", () -> Check.after("j30;" + OUT + OUT), Check.STATE, x -> x.gap());
        Check.sentence(40, "Returns the difference of the squares of their distances, at least 0.");
        Check.due("gap(), 9 and 9", Check.after("j30;b1,30,0;b-1,30,0").gap(), 0);
        Check.due("gap(), 9 and 10", Check.after("j30;b1,30,0;b1,29,0").gap(), 1);
        Check.due("gap(), 10 and 9", Check.after("j30;b1,29,0;b-1,30,0").gap(), 1);
        Check.due("gap(), 225 and 9", Check.after("j30;b0,15,0;b1,30,0").gap(), 216);
        Check.due("gap(), 9 and 225", Check.after("j30;b1,30,0;b0,15,0").gap(), 216);
        Check.due("gap() in a burnt end is told", Check.after(Situations.BURNT).gap() >= 0, true);
        Check.due("gap(), in the ditch", Check.after("j48;b5,58,-2;b0,70,0;b0,68,0").gap(), 81);
    }

    /** The nearest one of each side, be it played first, in the midst or last. */
    private static void gapOfSeveral() {
        Check.sentence(40, "Tells by how much the nearest bowls of both sides differ.");
        int[][] rows = {{29, 15, 27, 16, 25, 17, 23, 18}, {23, 18, 29, 15, 25, 17, 27, 16}, {15, 16, 17, 18, 25, 26, 20, 21}};
        for (int[] one : rows) {
            WombatBowls x = Check.after("j50");
            int[] nearest = {9999, 9999};
            for (int bowl = 0; bowl < 8; bowl++) {
                x.play(bowl - 4, one[bowl], 0);
                int column = (1050 + 10 * (bowl - 4) * one[bowl]) / 100;
                int distance = (50 - one[bowl]) * (50 - one[bowl]) + (column - 10) * (column - 10);
                if (x.stateOf(bowl) == 0) {
                    Check.due("distanceOf " + bowl, x.distanceOf(bowl), distance);
                    nearest[bowl % 2] = Math.min(nearest[bowl % 2], distance);
                }
                if (x.aliveOf(0) > 0 && x.aliveOf(1) > 0) {
                    Check.due("gap() behind " + bowl, x.gap(), Math.abs(nearest[0] - nearest[1]));
                }
            }
        }
    }

    private static void spread() {
        Check.sentence(41, "Returns the squares of the differences of rows and columns, together; 0 with fewer than two that"
            + " are not dead.");
        Check.due("spread(), no end", new WombatBowls().spread(), 0);
        Check.due("spread(), no bowls", Check.after("j30").spread(), 0);
        Check.due("spread(), one", Check.after("j30;b0,20,0").spread(), 0);
        Check.due("spread(), one, and one is dead", Check.after("j30;b0,20,0;" + OUT).spread(), 0);
        Check.due("spread(), both are dead", Check.after("j30;" + OUT + OUT).spread(), 0);
        Check.due("spread(), two, side by side", Check.after("j30;b0,20,0;b0,20,0").spread(), 1);
        Check.due("spread(), of one side alone", Check.after("j30;b0,20,0;" + OUT + "b1,20,0").spread(), 4);
        // the corners: 52 and 0, 52 and 20; then 59 and 20
        Check.due("spread(), 20 columns", Check.after("j30;b2,52,0;b-2,52,0").spread(), 400);
        Check.due("spread(), 7 rows and 20 columns", Check.after("j30;b2,52,0;b-2,52,0;b2,67,0").spread(), 449);
        // of three the two that are farthest apart are the first and the last, the first two, the last two
        Check.due("spread(), 15, 20 and 29", Check.after("j30;b0,15,0;b1,20,0;b-1,29,0").spread(), 205);
        Check.due("spread(), 15, 29 and 20", Check.after("j30;b0,15,0;b-1,29,0;b1,20,0").spread(), 205);
        Check.due("spread(), 20, 15 and 29", Check.after("j30;b1,20,0;b0,15,0;b-1,29,0").spread(), 205);
        // a bowl in the ditch lies in the row 60: the bowls are at 47 and 11, 60 and 10, 51 and 10
        Check.due("spread(), in the ditch", Check.after("j48;b5,58,-2;b0,70,0;b0,68,0").spread(), 170);
        // the jack is no bowl: it lies farther away than all of eight bowls
        WombatBowls eight = Check.after("j50;b0,15,0;b0,15,0;b1,15,0;b1,15,0;b-1,15,0;b-1,15,0;b2,15,0");
        Check.due("spread(), seven, the columns 9 and 13", eight.spread(), 17);
        eight.play(9, 70, 3);
        Check.due("spread(), eight, one is dead", eight.spread(), 17);
        eight.undo();
        eight.play(2, 15, 0);
        Check.due("spread(), eight", eight.spread(), 17);
    }
}
