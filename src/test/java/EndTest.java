/** Promises 1 to 4 and 18 to 34: a new object, an end, and the end as it is. */
public final class EndTest {
    public static void main(String[] args) {
        newObject();
        roll();
        playOrdinary();
        playWrong();
        strikes();
        chain();
        jackStruck();
        ditchAndBurnt();
        toucherInDitch();
        putBack();
        count();
        wrongBowls();
        Check.end("EndTest");
    }

    private static void newObject() {
        WombatBowls x = new WombatBowls();
        Check.due("isJackThere()", x.isJackThere(), false);
        Check.due("isBurnt()", x.isBurnt(), false);
        Check.due("bowls()", x.bowls(), 0);
        Check.due("bowlsOfSide()", x.bowlsOfSide(), 4);
        Check.due("needed()", x.needed(), 21);
        Check.due("ends()", x.ends(), 0);
        Check.due("wind()", x.wind(), 0);
        Check.due("first()", x.first(), 0);
        Check.due("savedStates()", x.savedStates(), 0);
        Check.due("clearBuffer()", x.clearBuffer(), 0);
        Check.thrown("jackRow()", x, Check.STATE, () -> x.jackRow());
        Check.thrown("jackColumn()", x, Check.STATE, () -> x.jackColumn());
        Check.thrown("turn()", x, Check.STATE, () -> x.turn());
        Check.thrown("goBack(0)", x, Check.STATE, () -> x.goBack(0));
        Check.thrown("goBack(1)", x, Check.STATE, () -> x.goBack(1));
        WombatBowls y = new WombatBowls();
        x.roll(30);
        Check.due("objects are apart", y.isJackThere(), false);
    }

    private static void roll() {
        WombatBowls x = new WombatBowls();
        Check.thrown("roll(19)", x, Check.ARGUMENT, () -> x.roll(19));
        Check.thrown("roll(51)", x, Check.ARGUMENT, () -> x.roll(51));
        Check.thrown("roll(MIN)", x, Check.ARGUMENT, () -> x.roll(Integer.MIN_VALUE));
        Check.due("roll(20)", x.roll(20), 0);
        Check.due("isJackThere()", x.isJackThere(), true);
        Check.due("jackRow()", x.jackRow(), 20);
        Check.due("jackColumn()", x.jackColumn(), 10);
        Check.due("turn()", x.turn(), 0);
        Check.thrown("roll(20) again", x, Check.STATE, () -> x.roll(20));
        Check.thrown("roll(19) again, the argument first", x, Check.ARGUMENT, () -> x.roll(19));
        x.undo();
        Check.due("isJackThere() once undone", x.isJackThere(), false);
        Check.due("roll(50)", x.roll(50), 0);
        Check.due("jackRow() 50", x.jackRow(), 50);
        WombatBowls y = new WombatBowls();
        y.begin(1);
        Check.moves(y, "j30;b0,29,0;b9,70,3;b9,70,3;b9,70,3;b9,70,3;b9,70,3;b9,70,3;b9,70,3;c");
        Check.due("isOver()", y.isOver(), true);
        Check.thrown("roll(30), the match is over", y, Check.STATE, () -> y.roll(30));
        Check.thrown("roll(60), the match is over", y, Check.ARGUMENT, () -> y.roll(60));
    }

    private static void playOrdinary() {
        WombatBowls x = new WombatBowls();
        x.roll(30);
        Check.due("play(0, 29, 0)", x.play(0, 29, 0), 0);
        Check.due("turn()", x.turn(), 1);
        Check.due("bowls()", x.bowls(), 1);
        // (1050 + 10 * 40 * 2 - 820) / 100 is 10.3
        Check.due("play(2, 40, -1)", x.play(2, 40, -1), 0);
        Check.due("play(-9, 70, 3), out", x.play(-9, 70, 3), 2);
        Check.due("play(3, 60, -1), the ditch", x.play(3, 60, -1), 2);
        Check.due("play(3, 59, -1), just ahead of the ditch", x.play(3, 59, -1), 0);
        int[][] due = {{0, 0, 29, 10, 1, 0, 29, 0}, {1, 0, 40, 10, 100, 2, 40, -1}, {0, 2, 0, 0, 0, -9, 70, 3},
            {1, 2, 0, 0, 0, 3, 60, -1}, {0, 0, 59, 10, 841, 3, 59, -1}};
        for (int bowl = 0; bowl < due.length; bowl++) {
            int each = bowl;
            String name = "of bowl " + bowl;
            Check.due("side" + name, x.sideOf(bowl), due[bowl][0]);
            Check.due("state" + name, x.stateOf(bowl), due[bowl][1]);
            Check.due("toucher" + name, x.isToucher(bowl), false);
            Check.due("aim" + name, x.aimOf(bowl), due[bowl][5]);
            Check.due("weight" + name, x.weightOf(bowl), due[bowl][6]);
            Check.due("bias" + name, x.biasOf(bowl), due[bowl][7]);
            if (due[bowl][1] == 2) {
                Check.thrown("row" + name, x, Check.STATE, () -> x.rowOf(each));
                Check.thrown("column" + name, x, Check.STATE, () -> x.columnOf(each));
                Check.thrown("distance" + name, x, Check.STATE, () -> x.distanceOf(each));
            } else {
                Check.due("row" + name, x.rowOf(bowl), due[bowl][2]);
                Check.due("column" + name, x.columnOf(bowl), due[bowl][3]);
                Check.due("distance" + name, x.distanceOf(bowl), due[bowl][4]);
                Check.due("bowlAt() " + name, x.bowlAt(due[bowl][2], due[bowl][3]), bowl);
            }
        }
        wind();
    }

    /** The wind is as an aim; a way that is out on its way is dead, though it would come back. */
    private static void wind() {
        WombatBowls x = new WombatBowls();
        x.roll(50);
        Check.due("changeWind(-2)", x.changeWind(-2), 0);
        x.play(0, 20, 0);
        Check.due("columnOf(0), (1050 - 400) / 100", x.columnOf(0), 6);
        x.changeWind(5);
        Check.due("play(9, 20, -3) with the wind, out at the step 9", x.play(9, 20, -3), 2);
        x.changeWind(0);
        x.play(-5, 21, 0);
        Check.due("columnOf(2), exactly 0", x.columnOf(2), 0);
        x.undo();
        Check.due("play(-5, 22, 0), -50 hundredths are rounded down", x.play(-5, 22, 0), 2);
        x.play(5, 20, 0);
        Check.due("columnOf(3), 2050 hundredths", x.columnOf(3), 20);
        x.undo();
        Check.due("play(5, 21, 0), 2100 hundredths", x.play(5, 21, 0), 2);
    }

    private static void playWrong() {
        WombatBowls x = new WombatBowls();
        Check.thrown("play, no jack", x, Check.STATE, () -> x.play(0, 30, 0));
        Check.thrown("play(10, 30, 0), no jack", x, Check.ARGUMENT, () -> x.play(10, 30, 0));
        x.changeBowls(1);
        x.roll(30);
        int[][] wrong = {{10, 30, 0}, {-10, 30, 0}, {0, 14, 0}, {0, 71, 0}, {0, 30, 4}, {0, 30, -4}};
        for (int[] one : wrong) {
            Check.thrown("play " + one[0] + " " + one[1] + " " + one[2], x, Check.ARGUMENT,
                () -> x.play(one[0], one[1], one[2]));
        }
        Check.due("play(9, 15, 3)", x.play(9, 15, 3), 2);
        Check.due("play(-9, 15, 3)", x.play(-9, 15, 3), 0);
        Check.thrown("play, all are played", x, Check.STATE, () -> x.play(0, 30, 0));
        Check.thrown("play, all are played, wrong bias", x, Check.ARGUMENT, () -> x.play(0, 30, 9));
        Check.thrown("turn(), all are played", x, Check.STATE, () -> x.turn());
    }

    /** A bowl that strikes stays ahead; half of what is left moves the other one, 0 not at all. */
    private static void strikes() {
        WombatBowls x = new WombatBowls();
        x.roll(50);
        x.play(0, 20, 0);
        Check.due("play(0, 20, 0), no steps are left", x.play(0, 20, 0), 0);
        Check.due("rowOf(0), it stays", x.rowOf(0), 20);
        Check.due("rowOf(1), ahead of it", x.rowOf(1), 19);
        x.undo();
        x.play(0, 21, 0);
        Check.due("rowOf(0), half of 1", x.rowOf(0), 20);
        x.undo();
        x.play(0, 25, 0);
        Check.due("rowOf(0), half of 5", x.rowOf(0), 22);
        Check.due("rowOf(1)", x.rowOf(1), 19);
        Check.due("isToucher(1)", x.isToucher(1), false);
        // at the step 58 it is in the column 10 (1050 + 1740 - 1711), at 57 in the column 11 (1050 + 1710 - 1653)
        x.play(3, 58, -1);
        x.play(3, 58, -1);
        Check.due("columnOf(2)", x.columnOf(2), 10);
        Check.due("rowOf(3), the place ahead of the step", x.rowOf(3), 57);
        Check.due("columnOf(3), the place ahead of the step", x.columnOf(3), 11);
    }

    /** Of three in a row each goes on by half of what is left, and stays ahead of the next one. */
    private static void chain() {
        WombatBowls x = new WombatBowls();
        x.roll(50);
        x.play(0, 30, 0);
        x.play(0, 25, 0);
        x.play(0, 20, 0);
        Check.due("wouldStrike(0, 70, 0)", x.wouldStrike(0, 70, 0), 3);
        // 50 are left at 20, 25 for the third; 20 at 25, 10 for the second; 5 at 30, 2 for the first
        Check.due("play(0, 70, 0)", x.play(0, 70, 0), 0);
        Check.due("rowOf(3)", x.rowOf(3), 19);
        Check.due("rowOf(2)", x.rowOf(2), 24);
        Check.due("rowOf(1)", x.rowOf(1), 29);
        Check.due("rowOf(0)", x.rowOf(0), 32);
    }

    /** A toucher is a bowl that comes to the jack itself, as it is played. */
    private static void jackStruck() {
        WombatBowls x = new WombatBowls();
        x.roll(30);
        Check.due("play(0, 30, 0), no steps are left", x.play(0, 30, 0), 0);
        Check.due("isToucher(0)", x.isToucher(0), true);
        Check.due("jackRow(), it stays", x.jackRow(), 30);
        Check.due("touchers()", x.touchers(), 1);
        // 41 are left at 29, 20 for the bowl 0; 19 at 30, 9 for the jack
        x.play(0, 70, 0);
        Check.due("isToucher(1), it strikes a bowl that strikes", x.isToucher(1), false);
        Check.due("rowOf(0)", x.rowOf(0), 29);
        Check.due("jackRow(), struck by a bowl", x.jackRow(), 39);
        Check.due("wouldStrike(0, 70, 0)", x.wouldStrike(0, 70, 0), 3);
        WombatBowls y = new WombatBowls();
        y.roll(30);
        y.play(0, 29, 0);
        y.play(0, 70, 0);
        Check.due("isToucher(0), not as it is played", y.isToucher(0), false);
        Check.due("isToucher(1)", y.isToucher(1), false);
        Check.due("jackRow()", y.jackRow(), 39);
        Check.due("touchers()", y.touchers(), 0);
        Check.due("jackColumn()", y.jackColumn(), 10);
    }

    /** The jack is brought to the ditch by bowls that are no touchers. */
    private static void ditchAndBurnt() {
        WombatBowls x = new WombatBowls();
        Check.moves(x, "j50;b-7,45,3;b-7,67,3;b-8,52,3;b-8,70,3;b8,70,-3;b-3,58,1");
        Check.due("isBurnt() ahead of it", x.isBurnt(), false);
        Check.due("jackRow() ahead of it", x.jackRow(), 59);
        Check.due("wouldCount, a burnt end", x.wouldCount(-3, 64, 1), 0);
        x.play(-3, 64, 1);
        Check.due("isBurnt()", x.isBurnt(), true);
        Check.due("isJackThere()", x.isJackThere(), true);
        Check.due("jackRow()", x.jackRow(), 60);
        Check.due("bowls()", x.bowls(), 7);
        Check.due("pointsByOrder()", x.pointsByOrder(), 0);
        Check.due("pointsByPairs()", x.pointsByPairs(), 0);
        Check.due("distance still is told", x.distanceOf(x.nearest(0)) > 0, true);
        Check.thrown("leader()", x, Check.STATE, () -> x.leader());
        Check.thrown("play, burnt", x, Check.STATE, () -> x.play(0, 30, 0));
        Check.thrown("turn(), burnt", x, Check.STATE, () -> x.turn());
        Check.thrown("roll, burnt", x, Check.STATE, () -> x.roll(30));
        Check.thrown("wouldCount, burnt", x, Check.STATE, () -> x.wouldCount(0, 30, 0));
        Check.thrown("wouldStrike, burnt", x, Check.STATE, () -> x.wouldStrike(0, 30, 0));
        Check.thrown("bestWeight, burnt", x, Check.STATE, () -> x.bestWeight(0, 0));
        Check.thrown("bestPlay, burnt", x, Check.STATE, () -> x.bestPlay());
        Check.due("count(), burnt", x.count(), 0);
        Check.due("isJackThere(), counted", x.isJackThere(), false);
        Check.due("ends()", x.ends(), 1);
        Check.due("burntEnds()", x.burntEnds(), 1);
        Check.due("pointsOfEnd(0)", x.pointsOfEnd(0), 0);
        Check.due("endsWith(0)", x.endsWith(0), 1);
        Check.due("played()", x.played(), 7);
    }

    private static void toucherInDitch() {
        WombatBowls x = new WombatBowls();
        x.roll(48);
        x.play(5, 58, -2);
        Check.due("isToucher(0)", x.isToucher(0), true);
        x.play(0, 70, 0);
        x.play(0, 70, 0);
        int inDitch = 0;
        for (int bowl = 0; bowl < 3; bowl++) {
            if (x.stateOf(bowl) == 1) {
                inDitch++;
                Check.due("rowOf()", x.rowOf(bowl), 60);
                Check.due("a toucher lies in the ditch", x.isToucher(bowl), true);
                Check.due("columnOf()", x.columnOf(bowl) >= 0 && x.columnOf(bowl) <= 20, true);
            }
        }
        Check.due("bowls in the ditch", inDitch, 1);
        // the jack is in the ditch by touchers: not burnt
        WombatBowls y = new WombatBowls();
        y.roll(50);
        y.play(0, 70, 0);
        Check.due("jackRow(), half of 20", y.jackRow(), 60);
        Check.due("isBurnt(), a toucher", y.isBurnt(), false);
        Check.due("rowOf(0)", y.rowOf(0), 49);
        Check.due("distanceOf(0)", y.distanceOf(0), 121);
        Check.due("leader()", y.leader(), 0);
        Check.due("turn()", y.turn(), 1);
        Check.thrown("bowlAt(60, 10)", y, Check.INDEX, () -> y.bowlAt(60, 10));
        // a bowl that is no toucher is struck: by 60 it stays, by 61 it comes to the ditch
        y.play(3, 59, -1);
        y.play(3, 60, -1);
        Check.due("stateOf(1), none of 1 is left", y.stateOf(1), 0);
        y.undo();
        y.play(3, 61, -1);
        Check.due("stateOf(1), it is dead", y.stateOf(1), 2);
        Check.due("stateOf(2), it lies ahead", y.stateOf(2), 0);
        Check.due("rowOf(2)", y.rowOf(2), 58);
    }

    private static void putBack() {
        WombatBowls x = new WombatBowls();
        Check.moves(x, "j50;b0,40,0;b-7,45,3;b-7,67,3;b-8,52,3;b-8,70,3;b8,70,-3");
        x.play(-3, 58, 1);
        x.keep(0);
        Check.due("turnBack()", x.turnBack(), true);
        Check.due("putBack(), not yet", x.putBack(), 0);
        x.play(-3, 64, 1);
        Check.due("isBurnt()", x.isBurnt(), false);
        Check.due("jackRow(), behind the bowl at 40", x.jackRow(), 41);
        Check.due("jackColumn()", x.jackColumn(), 10);
        Check.due("putBack()", x.putBack(), 1);
        Check.due("bowlAt(40, 10)", x.bowlAt(40, 10), 0);
        Check.thrown("roll, it lies", x, Check.STATE, () -> x.roll(30));
        x.goBack(0);
        Check.due("putBack() there", x.putBack(), 0);
        x.play(-3, 64, 1);
        Check.due("isBurnt(), without the rule", x.isBurnt(), true);
        Check.due("turnBack() in a burnt end", x.turnBack(), true);
        Check.due("isBurnt() then", x.isBurnt(), false);
        Check.due("jackRow() then", x.jackRow(), 41);
        Check.due("putBack() then", x.putBack(), 1);
        Check.due("turnBack() off", x.turnBack(), false);
        Check.due("jackRow(), it stays", x.jackRow(), 41);
        // a bowl in another column of the row 40 is in nobody's way
        WombatBowls y = new WombatBowls();
        y.turnBack();
        Check.moves(y, "j50;b1,40,0;b-7,45,3;b-7,67,3;b-8,52,3;b-8,70,3;b8,70,-3");
        Check.moves(y, "b-3,58,1;b-3,64,1");
        Check.due("bowlAt(40, 14)", y.bowlAt(40, 14), 0);
        Check.due("jackRow(), the place is free", y.jackRow(), 40);
        Check.due("count()", y.count() > 0, true);
    }

    private static void count() {
        WombatBowls x = new WombatBowls();
        Check.thrown("count(), no jack", x, Check.STATE, () -> x.count());
        x.changeBowls(2);
        x.roll(30);
        Check.thrown("count(), no bowl", x, Check.STATE, () -> x.count());
        x.play(0, 20, 0);
        x.play(2, 25, 0);
        x.play(-1, 27, 0);
        Check.thrown("count(), a bowl is to come", x, Check.STATE, () -> x.count());
        x.play(1, 29, 0);
        Check.due("count()", x.count(), 1);
        Check.due("pointsOf(1)", x.pointsOf(1), 1);
        Check.due("pointsOf(0)", x.pointsOf(0), 0);
        Check.due("first(), the side that scored", x.first(), 1);
        Check.due("isJackThere()", x.isJackThere(), false);
        Check.due("bowls()", x.bowls(), 0);
        Check.thrown("sideOf(0), taken away", x, Check.INDEX, () -> x.sideOf(0));
        Check.thrown("bowlAt(20, 10), taken away", x, Check.STATE, () -> x.bowlAt(20, 10));
        Check.due("roll(40)", x.roll(40), 1);
        Check.due("turn()", x.turn(), 1);
        x.play(9, 70, 3);
        Check.due("sideOf(0)", x.sideOf(0), 1);
        Check.due("turn() of the other one", x.turn(), 0);
        x.play(9, 70, 3);
        x.play(9, 70, 3);
        x.play(9, 70, 3);
        Check.due("count(), no side scores", x.count(), 0);
        Check.due("first(), as it was", x.first(), 1);
        x.undo();
        Check.due("bowls() once undone", x.bowls(), 4);
        Check.due("ends() once undone", x.ends(), 1);
    }

    private static void wrongBowls() {
        WombatBowls x = new WombatBowls();
        x.roll(30);
        x.play(9, 70, 3);
        for (int bowl : new int[] {-1, 1, 7, 8, 9, Integer.MAX_VALUE, Integer.MIN_VALUE}) {
            String name = "(" + bowl + ")";
            Check.thrown("sideOf" + name, x, Check.INDEX, () -> x.sideOf(bowl));
            Check.thrown("stateOf" + name, x, Check.INDEX, () -> x.stateOf(bowl));
            Check.thrown("rowOf" + name, x, Check.INDEX, () -> x.rowOf(bowl));
            Check.thrown("columnOf" + name, x, Check.INDEX, () -> x.columnOf(bowl));
            Check.thrown("isToucher" + name, x, Check.INDEX, () -> x.isToucher(bowl));
            Check.thrown("distanceOf" + name, x, Check.INDEX, () -> x.distanceOf(bowl));
            Check.thrown("aimOf" + name, x, Check.INDEX, () -> x.aimOf(bowl));
            Check.thrown("weightOf" + name, x, Check.INDEX, () -> x.weightOf(bowl));
            Check.thrown("biasOf" + name, x, Check.INDEX, () -> x.biasOf(bowl));
        }
        int[][] places = {{-1, 0}, {60, 10}, {0, -1}, {0, 21}, {Integer.MAX_VALUE, 0}, {0, Integer.MIN_VALUE}};
        for (int[] place : places) {
            Check.thrown("bowlAt", x, Check.INDEX, () -> x.bowlAt(place[0], place[1]));
        }
        Check.thrown("bowlAt of the jack", x, Check.STATE, () -> x.bowlAt(30, 10));
        Check.thrown("bowlAt(0, 0)", x, Check.STATE, () -> x.bowlAt(0, 0));
        Check.thrown("bowlAt(59, 20)", x, Check.STATE, () -> x.bowlAt(59, 20));
    }
}
