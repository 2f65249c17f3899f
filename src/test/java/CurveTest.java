/** Promises 42 and 43: curves told by steps and by a formula. */
public final class CurveTest {
    public static void main(String[] args) {
        due(0, 30, 0, 0, 10);
        due(0, 30, 0, 30, 640);
        due(0, 70, 0, 59, 1249);
        due(0, 70, 0, 60, -1);
        due(0, 70, 0, 70, -1);
        // 1050 + 1050 is 21.00: out; one step less is in the column 20
        due(5, 21, 0, 20, 20 * 21 + 20);
        due(5, 21, 0, 21, -1);
        // 1050 - 1050 is 0.00: the column 0; one step more is -0.50: out
        due(-5, 22, 0, 21, 21 * 21);
        due(-5, 22, 0, 22, -1);
        // at 14 it is in the column 20, at 26 it would be out; at 59 it would be back
        due(8, 70, -3, 26, 26 * 21 + 20);
        due(9, 70, -3, 25, -1);
        due(9, 70, -3, 55, -1);
        // below 0 divisions are rounded down: 1050 - 1080 + 78 is 0.48, 1050 - 1170 + 91 is -0.29
        due(-1, 15, -1, 1, 31);
        due(-9, 15, 1, 12, 252);
        due(-9, 15, 1, 13, -1);
        due(-9, 15, 3, 1, 30);
        wind();
        ranges();
        both();
        Check.end("CurveTest");
    }

    private static void due(int aim, int weight, int bias, int steps, int due) {
        WombatBowls x = new WombatBowls();
        String name = "(" + aim + ", " + weight + ", " + bias + ", " + steps + ")";
        Check.due("curveBySteps" + name, x.curveBySteps(aim, weight, bias, steps), due);
        Check.due("curveByFormula" + name, x.curveByFormula(aim, weight, bias, steps), due);
    }

    /** The wind bends the curve too; things on the green do not. */
    private static void wind() {
        WombatBowls x = new WombatBowls();
        x.changeWind(-3);
        Check.due("curveBySteps(3)", x.curveBySteps(3, 40, 0, 40), 850);
        Check.due("curveByFormula(3)", x.curveByFormula(3, 40, 0, 40), 850);
        Check.due("curveBySteps(0)", x.curveBySteps(0, 40, 0, 20), 424);
        Check.due("curveByFormula(0)", x.curveByFormula(0, 40, 0, 20), 424);
        x.changeWind(0);
        x.roll(30);
        x.play(0, 20, 0);
        Check.due("curveBySteps, things lie there", x.curveBySteps(0, 40, 0, 40), 850);
        Check.due("curveByFormula, things lie there", x.curveByFormula(0, 40, 0, 40), 850);
        Check.due("bowls()", x.bowls(), 1);
        Check.due("savedStates()", x.savedStates(), 4);
    }

    private static void ranges() {
        WombatBowls x = new WombatBowls();
        int[][] wrong = {{10, 30, 0, 0}, {-10, 30, 0, 0}, {0, 14, 0, 0}, {0, 71, 0, 0}, {0, 30, 4, 0}, {0, 30, -4, 0},
            {0, 30, 0, -1}, {0, 30, 0, 31}, {0, 30, 0, Integer.MAX_VALUE}, {0, Integer.MIN_VALUE, 0, 0}};
        for (int[] one : wrong) {
            Check.thrown("curveBySteps", x, Check.ARGUMENT, () -> x.curveBySteps(one[0], one[1], one[2], one[3]));
            Check.thrown("curveByFormula", x, Check.ARGUMENT, () -> x.curveByFormula(one[0], one[1], one[2], one[3]));
        }
        Check.due("curveBySteps, the least", x.curveBySteps(-9, 15, -3, 0), 10);
        Check.due("curveByFormula, the greatest", x.curveByFormula(9, 70, 3, 0), 10);
    }

    /** Both tell the same, and the same as a bowl that is played on the empty green. */
    private static void both() {
        for (int aim = -9; aim <= 9; aim += 3) {
            for (int bias = -3; bias <= 3; bias++) {
                WombatBowls x = new WombatBowls();
                x.roll(20);
                for (int steps = 15; steps <= 70; steps++) {
                    int place = x.curveBySteps(aim, steps, bias, steps);
                    Check.due("both", x.curveByFormula(aim, steps, bias, steps), place);
                    if (x.wouldStrike(aim, steps, bias) == 0) {
                        int fate = x.play(aim, steps, bias);
                        Check.due("a bowl that is played", fate, place < 0 ? 2 : 0);
                        if (fate == 0) {
                            Check.due("its place", 21 * x.rowOf(0) + x.columnOf(0), place);
                        }
                        x.undo();
                    }
                }
            }
        }
    }
}
