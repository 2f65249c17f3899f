/** Promises 35 to 41: counting. */
public final class CountingTest {
    public static void main(String[] args) {
        nothing();
        ordinary();
        ties();
        oneSideAlone();
        touchersTwice();
        spread();
        burnt();
        wrong();
        Check.end("CountingTest");
    }

    private static void nothing() {
        WombatBowls x = new WombatBowls();
        for (int times = 0; times < 2; times++) {
            Check.thrown("leader()", x, Check.STATE, () -> x.leader());
            Check.thrown("gap()", x, Check.STATE, () -> x.gap());
            Check.thrown("nearest(0)", x, Check.INDEX, () -> x.nearest(0));
            Check.due("pointsByOrder()", x.pointsByOrder(), 0);
            Check.due("pointsByPairs()", x.pointsByPairs(), 0);
            Check.due("aliveOf(0)", x.aliveOf(0), 0);
            Check.due("aliveOf(1)", x.aliveOf(1), 0);
            Check.due("spread()", x.spread(), 0);
            x.roll(40);
            x.play(9, 70, 3);
            Check.due("bowls(), but it is dead", x.bowls(), 1);
            Check.thrown("leader(), dead bowls", x, Check.STATE, () -> x.leader());
            Check.thrown("nearest(0), dead bowls", x, Check.INDEX, () -> x.nearest(0));
            x.undo();
            x.undo();
        }
    }

    private static void points(WombatBowls x, int side, int points) {
        Check.due("leader()", x.leader(), side);
        Check.due("pointsByOrder()", x.pointsByOrder(), points);
        Check.due("pointsByPairs()", x.pointsByPairs(), points);
    }

    private static void noPoints(WombatBowls x) {
        Check.thrown("leader(), none", x, Check.STATE, () -> x.leader());
        Check.due("pointsByOrder(), none", x.pointsByOrder(), 0);
        Check.due("pointsByPairs(), none", x.pointsByPairs(), 0);
    }

    /** Distances 25, 100, 1, 50, 16, out. */
    private static void ordinary() {
        WombatBowls x = new WombatBowls();
        x.roll(30);
        x.play(0, 25, 0);
        points(x, 0, 1);
        Check.thrown("gap(), one side", x, Check.STATE, () -> x.gap());
        x.play(-1, 40, 0);
        Check.due("distanceOf(1), 10 and 4", x.distanceOf(1), 116);
        points(x, 0, 1);
        Check.due("gap()", x.gap(), 91);
        x.play(1, 27, 0);
        Check.due("distanceOf(2), 3 and 3", x.distanceOf(2), 18);
        points(x, 0, 2);
        Check.due("gap()", x.gap(), 98);
        x.play(-1, 30, 0);
        Check.due("distanceOf(3), 0 and 3", x.distanceOf(3), 9);
        points(x, 1, 1);
        Check.due("gap()", x.gap(), 9);
        x.play(9, 70, 3);
        points(x, 1, 1);
        int[] order = {3, 2, 0, 1};
        for (int place = 0; place < 4; place++) {
            Check.due("nearest " + place, x.nearest(place), order[place]);
        }
        Check.thrown("nearest(4), dead", x, Check.INDEX, () -> x.nearest(4));
        Check.due("aliveOf(0)", x.aliveOf(0), 2);
        Check.due("aliveOf(1)", x.aliveOf(1), 2);
        long before = x.digest();
        x.pointsByOrder();
        x.nearest(0);
        x.gap();
        Check.due("digest(), nothing is changed", x.digest(), before);
    }

    /** Distances that are alike are not nearer. */
    private static void ties() {
        WombatBowls x = new WombatBowls();
        x.roll(30);
        x.play(-1, 30, 0);
        x.play(1, 25, 0);
        x.undo();
        // the columns 7 and 13 in the row 30
        x.play(1, 30, 0);
        Check.due("distanceOf(0)", x.distanceOf(0), 9);
        Check.due("distanceOf(1)", x.distanceOf(1), 9);
        noPoints(x);
        Check.due("gap()", x.gap(), 0);
        Check.due("nearest(0), the one played first", x.nearest(0), 0);
        Check.due("nearest(1)", x.nearest(1), 1);
        // nearer than both: one point, as the one that is as near as the other side's does not count
        x.play(0, 28, 0);
        Check.due("distanceOf(2)", x.distanceOf(2), 4);
        points(x, 0, 1);
        Check.due("nearest(0)", x.nearest(0), 2);
        Check.due("nearest(1)", x.nearest(1), 0);
        Check.due("nearest(2)", x.nearest(2), 1);
        Check.due("gap()", x.gap(), 5);
    }

    private static void oneSideAlone() {
        WombatBowls x = new WombatBowls();
        Check.moves(x, "j30;b9,70,3;b0,25,0;b9,70,3;b1,20,0;b9,70,3;b-1,20,0");
        points(x, 1, 3);
        Check.due("aliveOf(0)", x.aliveOf(0), 0);
        Check.due("aliveOf(1)", x.aliveOf(1), 3);
        Check.thrown("gap(), a side has none", x, Check.STATE, () -> x.gap());
        Check.due("nearest(0)", x.nearest(0), 1);
    }

    private static void touchersTwice() {
        WombatBowls x = new WombatBowls();
        x.turnTwice();
        x.roll(30);
        x.play(0, 30, 0);
        points(x, 0, 2);
        x.play(9, 70, 3);
        x.play(1, 30, 0);
        points(x, 0, 3);
        x.turnTwice();
        points(x, 0, 2);
    }

    private static void spread() {
        WombatBowls x = new WombatBowls();
        x.roll(50);
        x.play(0, 20, 0);
        Check.due("spread(), one", x.spread(), 0);
        x.play(9, 70, 3);
        Check.due("spread(), one that is not dead", x.spread(), 0);
        x.play(0, 59, 0);
        // bowl 2 strikes bowl 0: 39 are left at 20, 19 for bowl 0
        Check.due("rowOf(0)", x.rowOf(0), 39);
        Check.due("rowOf(2)", x.rowOf(2), 19);
        Check.due("spread()", x.spread(), 400);
        x.play(2, 15, 0);
        Check.due("columnOf(3)", x.columnOf(3), 13);
        Check.due("spread(), 24 and 3", x.spread(), 585);
    }

    private static void burnt() {
        WombatBowls x = new WombatBowls();
        Check.moves(x, "j50;b-7,45,3;b-7,67,3;b-8,52,3;b-8,70,3;b8,70,-3;b-3,58,1;b-3,64,1");
        Check.due("isBurnt()", x.isBurnt(), true);
        noPoints(x);
        Check.due("gap() still is told", x.gap() >= 0, true);
        Check.due("nearest(0) still is told", x.nearest(0) >= 0, true);
        int near = x.distanceOf(x.nearest(0));
        for (int bowl = 0; bowl < x.bowls(); bowl++) {
            Check.due("nearer than bowl " + bowl, x.stateOf(bowl) == 2 || x.distanceOf(bowl) >= near, true);
        }
    }

    private static void wrong() {
        WombatBowls x = new WombatBowls();
        Check.moves(x, "j30;b0,25,0;b0,20,0");
        for (int place : new int[] {-1, 2, 8, 9, Integer.MAX_VALUE, Integer.MIN_VALUE}) {
            Check.thrown("nearest " + place, x, Check.INDEX, () -> x.nearest(place));
        }
        for (int side : new int[] {-1, 2, Integer.MAX_VALUE, Integer.MIN_VALUE}) {
            Check.thrown("aliveOf " + side, x, Check.INDEX, () -> x.aliveOf(side));
        }
    }
}
