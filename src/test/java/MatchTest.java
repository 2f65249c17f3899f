/** Promises 5 to 9 and 48 to 62: the match, and its accounts. */
public final class MatchTest {
    private static final String OUT = "b9,70,3;";
    // with one bowl each: the first side scores, the second side scores, nobody scores
    private static final String FIRST = "j30;b0,29,0;" + OUT + "c";
    private static final String SECOND = "j30;" + OUT + "b0,29,0;c";
    private static final String NOBODY = "j30;" + OUT + OUT + "c";

    public static void main(String[] args) {
        begin();
        beginStays();
        changeBowls();
        changeWind();
        turns();
        kept();
        streak();
        matchWon();
        eightPoints();
        counters();
        wrong();
        Check.end("MatchTest");
    }

    private static void begin() {
        WombatBowls x = new WombatBowls();
        Check.thrown("begin(0)", x, Check.ARGUMENT, () -> x.begin(0));
        Check.thrown("begin(51)", x, Check.ARGUMENT, () -> x.begin(51));
        Check.thrown("begin(-1)", x, Check.ARGUMENT, () -> x.begin(-1));
        Check.due("begin(50)", x.begin(50), 21);
        Check.due("begin(1)", x.begin(1), 50);
        Check.due("needed()", x.needed(), 1);
        Check.due("savedStates()", x.savedStates(), 2);
        x.undo();
        Check.due("needed() once undone", x.needed(), 50);
    }

    /** Another match takes the jack, the bowls and all accounts away, but keeps what was changed and turned. */
    private static void beginStays() {
        WombatBowls x = new WombatBowls();
        x.changeBowls(1);
        x.changeWind(1);
        x.turnBack();
        x.turnTwice();
        Check.moves(x, "j30;b8,70,3;b-1,30,0;c;j30;b-1,29,0");
        Check.due("pointsOf(1), a toucher twice", x.pointsOf(1), 2);
        Check.due("first()", x.first(), 1);
        Check.due("touchers()", x.touchers(), 1);
        long turned = x.digest();
        Check.due("begin(7)", x.begin(7), 21);
        Check.due("digest() is another one", x.digest() != turned, true);
        Check.due("isJackThere()", x.isJackThere(), false);
        Check.due("bowls()", x.bowls(), 0);
        Check.due("bowlsOfSide(), it stays", x.bowlsOfSide(), 1);
        Check.due("wind(), it stays", x.wind(), 1);
        Check.due("pointsOf(0)", x.pointsOf(0), 0);
        Check.due("pointsOf(1)", x.pointsOf(1), 0);
        Check.due("ends()", x.ends(), 0);
        Check.due("keptEnds()", x.keptEnds(), 0);
        Check.due("burntEnds()", x.burntEnds(), 0);
        Check.due("endsWith(-2)", x.endsWith(-2), 0);
        Check.due("played()", x.played(), 0);
        Check.due("touchers()", x.touchers(), 0);
        Check.due("putBack()", x.putBack(), 0);
        Check.due("streak()", x.streak(), 0);
        Check.due("first()", x.first(), 0);
        Check.due("meanPoints()", x.meanPoints(), 0.0);
        Check.thrown("pointsOfEnd(0)", x, Check.INDEX, () -> x.pointsOfEnd(0));
        Check.due("turnBack(), it was on", x.turnBack(), false);
        Check.due("turnTwice(), it was on", x.turnTwice(), false);
    }

    private static void changeBowls() {
        WombatBowls x = new WombatBowls();
        Check.thrown("changeBowls(0)", x, Check.ARGUMENT, () -> x.changeBowls(0));
        Check.thrown("changeBowls(5)", x, Check.ARGUMENT, () -> x.changeBowls(5));
        Check.due("changeBowls(1)", x.changeBowls(1), 4);
        Check.due("changeBowls(3)", x.changeBowls(3), 1);
        Check.due("changeBowls(3) again", x.changeBowls(3), 3);
        Check.due("savedStates(), also if nothing is changed", x.savedStates(), 3);
        x.roll(30);
        Check.thrown("changeBowls(2), the jack lies", x, Check.STATE, () -> x.changeBowls(2));
        Check.thrown("changeBowls(5), the jack lies", x, Check.ARGUMENT, () -> x.changeBowls(5));
        Check.due("bowlsOfSide()", x.bowlsOfSide(), 3);
        for (int bowl = 0; bowl < 6; bowl++) {
            x.play(9, 70, 3);
        }
        Check.thrown("a seventh bowl", x, Check.STATE, () -> x.play(9, 70, 3));
    }

    private static void changeWind() {
        WombatBowls x = new WombatBowls();
        Check.thrown("changeWind(-6)", x, Check.ARGUMENT, () -> x.changeWind(-6));
        Check.thrown("changeWind(6)", x, Check.ARGUMENT, () -> x.changeWind(6));
        Check.due("changeWind(-5)", x.changeWind(-5), 0);
        Check.due("changeWind(5)", x.changeWind(5), -5);
        x.roll(30);
        Check.due("changeWind(0) in an end", x.changeWind(0), 5);
        Check.due("changeWind(0) again", x.changeWind(0), 0);
        Check.due("savedStates()", x.savedStates(), 5);
        Check.due("wind()", x.wind(), 0);
    }

    private static void turns() {
        WombatBowls x = new WombatBowls();
        Check.due("turnBack()", x.turnBack(), true);
        Check.due("turnBack()", x.turnBack(), false);
        Check.due("turnTwice()", x.turnTwice(), true);
        Check.due("savedStates()", x.savedStates(), 3);
        x.roll(30);
        x.play(0, 30, 0);
        Check.due("pointsByOrder(), twice", x.pointsByOrder(), 2);
        Check.due("pointsByPairs(), twice", x.pointsByPairs(), 2);
        Check.due("turnTwice() off", x.turnTwice(), false);
        Check.due("pointsByOrder(), once", x.pointsByOrder(), 1);
        Check.due("pointsByPairs(), once", x.pointsByPairs(), 1);
        x.undo();
        Check.due("pointsByPairs() once undone", x.pointsByPairs(), 2);
    }

    /** The latest 12 ends are kept, the first of them the oldest; what is dropped still is counted. */
    private static void kept() {
        WombatBowls x = new WombatBowls();
        x.begin(50);
        x.changeBowls(1);
        Check.moves(x, SECOND);
        Check.moves(x, NOBODY);
        Check.due("pointsOfEnd(0)", x.pointsOfEnd(0), -1);
        Check.due("pointsOfEnd(1)", x.pointsOfEnd(1), 0);
        Check.due("first(), of the latest end in which a side scored", x.first(), 1);
        // the side 1 plays first by now
        Check.moves(x, SECOND);
        Check.due("pointsOfEnd(2)", x.pointsOfEnd(2), 1);
        Check.due("keptEnds()", x.keptEnds(), 3);
        for (int end = 3; end < 12; end++) {
            Check.moves(x, FIRST);
        }
        Check.due("keptEnds(), 12", x.keptEnds(), 12);
        Check.due("pointsOfEnd(0), still there", x.pointsOfEnd(0), -1);
        Check.thrown("pointsOfEnd(12)", x, Check.INDEX, () -> x.pointsOfEnd(12));
        Check.moves(x, FIRST);
        Check.due("keptEnds(), still 12", x.keptEnds(), 12);
        Check.due("pointsOfEnd(0), the oldest one is dropped", x.pointsOfEnd(0), 0);
        Check.due("pointsOfEnd(1)", x.pointsOfEnd(1), 1);
        Check.due("pointsOfEnd(11)", x.pointsOfEnd(11), 1);
        Check.due("ends()", x.ends(), 13);
        Check.due("endsWith(-1), dropped", x.endsWith(-1), 1);
        Check.due("endsWith(0)", x.endsWith(0), 1);
        Check.due("endsWith(1)", x.endsWith(1), 11);
        Check.due("streak()", x.streak(), 11);
        Check.moves(x, FIRST);
        Check.moves(x, FIRST);
        Check.due("streak(), of those that are kept", x.streak(), 12);
        Check.due("meanPoints()", x.meanPoints(), 14.0 / 15.0);
        x.undo();
        Check.due("keptEnds() once undone", x.keptEnds(), 12);
        Check.due("ends() once undone", x.ends(), 14);
    }

    private static void streak() {
        WombatBowls x = new WombatBowls();
        x.changeBowls(1);
        Check.due("streak(), no end", x.streak(), 0);
        Check.moves(x, FIRST);
        Check.due("streak()", x.streak(), 1);
        Check.moves(x, FIRST);
        Check.due("streak()", x.streak(), 2);
        Check.moves(x, SECOND);
        Check.due("streak(), the other side", x.streak(), 1);
        Check.moves(x, NOBODY);
        Check.due("streak(), no side", x.streak(), 0);
        Check.moves(x, FIRST);
        Check.due("streak(), behind an end of no side", x.streak(), 1);
    }

    private static void matchWon() {
        WombatBowls x = new WombatBowls();
        x.begin(2);
        x.changeBowls(1);
        Check.moves(x, FIRST);
        Check.due("isOver(), 1 of 2", x.isOver(), false);
        Check.moves(x, FIRST);
        Check.due("isOver(), 2 of 2", x.isOver(), true);
        Check.due("pointsOf(0)", x.pointsOf(0), 2);
        Check.thrown("roll(30), it is over", x, Check.STATE, () -> x.roll(30));
        Check.due("changeBowls(2), it is over", x.changeBowls(2), 1);
        x.begin(3);
        Check.due("isOver(), another match", x.isOver(), false);
        // more points than are needed: two bowls of the side 0 count
        Check.moves(x, "j30;b0,29,0;" + OUT + "b0,20,0;" + OUT + "c;j30;b0,29,0;" + OUT + "b0,20,0;" + OUT + "c");
        Check.due("pointsOf(0), 4 of 3", x.pointsOf(0), 4);
        Check.due("isOver(), 4 of 3", x.isOver(), true);
        Check.due("endsWith(2)", x.endsWith(2), 2);
        Check.due("endsWith(-2)", x.endsWith(-2), 0);
        Check.due("meanPoints()", x.meanPoints(), 2.0);
    }

    private static void eightPoints() {
        String four = "b0,54,0;" + OUT + "b-8,52,3;" + OUT + "b8,64,-3;" + OUT + "b-3,58,1;";
        WombatBowls x = new WombatBowls();
        x.turnTwice();
        Check.moves(x, "j50;" + four + OUT);
        Check.due("touchers()", x.touchers(), 4);
        Check.due("count(), eight", x.count(), 8);
        Check.due("pointsOfEnd(0)", x.pointsOfEnd(0), 8);
        Check.due("endsWith(8)", x.endsWith(8), 1);
        Check.due("endsWith(-8)", x.endsWith(-8), 0);
        Check.moves(x, "j50;" + OUT + four + "c");
        Check.due("pointsOfEnd(1)", x.pointsOfEnd(1), -8);
        Check.due("endsWith(-8)", x.endsWith(-8), 1);
        Check.due("pointsOf(1)", x.pointsOf(1), 8);
        Check.due("touchers(), of both ends", x.touchers(), 8);
        Check.due("meanPoints(), of both sides", x.meanPoints(), 8.0);
    }

    private static void counters() {
        WombatBowls x = new WombatBowls();
        x.changeBowls(1);
        x.roll(30);
        x.play(0, 30, 0);
        Check.due("played(), in the end already", x.played(), 1);
        Check.due("touchers(), in the end already", x.touchers(), 1);
        x.play(0, 20, 0);
        x.count();
        Check.due("played()", x.played(), 2);
        Check.due("touchers()", x.touchers(), 1);
        Check.due("meanPoints()", x.meanPoints(), 1.0);
        Check.moves(x, NOBODY);
        Check.moves(x, NOBODY);
        Check.due("meanPoints(), a third", x.meanPoints(), 1.0 / 3.0);
        Check.due("ends()", x.ends(), 3);
        Check.due("burntEnds()", x.burntEnds(), 0);
        Check.due("played()", x.played(), 6);
    }

    private static void wrong() {
        WombatBowls x = new WombatBowls();
        for (int side : new int[] {-1, 2, Integer.MAX_VALUE, Integer.MIN_VALUE}) {
            Check.thrown("pointsOf " + side, x, Check.INDEX, () -> x.pointsOf(side));
        }
        for (int points : new int[] {-9, 9, Integer.MAX_VALUE, Integer.MIN_VALUE}) {
            Check.thrown("endsWith " + points, x, Check.ARGUMENT, () -> x.endsWith(points));
        }
        for (int end : new int[] {-1, 0, 12, Integer.MAX_VALUE, Integer.MIN_VALUE}) {
            Check.thrown("pointsOfEnd " + end, x, Check.INDEX, () -> x.pointsOfEnd(end));
        }
        x.changeBowls(1);
        Check.moves(x, FIRST);
        Check.thrown("pointsOfEnd(-1)", x, Check.INDEX, () -> x.pointsOfEnd(-1));
        Check.thrown("pointsOfEnd(1)", x, Check.INDEX, () -> x.pointsOfEnd(1));
        Check.due("pointsOfEnd(0)", x.pointsOfEnd(0), 1);
    }
}
