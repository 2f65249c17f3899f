import java.util.function.Supplier;

/** The boundary cases of the promises 42 to 47: curves, and what would be. */
final class WouldBounds {
    private static final String OUT = Situations.OUT;

    private WouldBounds() {
    }

    static void run() {
        curveRanges();
        curves();
        everyCurve();
        windOnCurves();
        playRanges();
        playStates();
        wouldCount();
        wouldCountInDitch();
        bestWeight();
        wouldStrike();
        bestPlay();
        nothingChanged();
    }

    private interface Curve {
        int of(WombatBowls x, int aim, int weight, int bias, int steps);
    }

    private static void curveRanges() {
        curveRange(42, (x, aim, weight, bias, steps) -> x.curveBySteps(aim, weight, bias, steps));
        curveRange(43, (x, aim, weight, bias, steps) -> x.curveByFormula(aim, weight, bias, steps));
    }

    private static void curveRange(int promise, Curve curve) {
        Check.sentence(promise, "Throws IllegalArgumentException if aim, weight, bias or steps is out of range");
        Check.sentence(promise, "aim: -9 to 9");
        Check.range("aim", Situations::open, -9, 9, Check.ARGUMENT, (x, aim) -> curve.of(x, aim, 30, 0, 30));
        Check.sentence(promise, "weight: 15 to 70");
        Check.range("weight", Situations::open, 15, 70, Check.ARGUMENT, (x, weight) -> curve.of(x, 0, weight, 0, 15));
        Check.sentence(promise, "bias: -3 to 3");
        Check.range("bias", Situations::open, -3, 3, Check.ARGUMENT, (x, bias) -> curve.of(x, 0, 30, bias, 30));
        Check.sentence(promise, "steps: 0 up to the weight");
        for (int weight : new int[] {15, 16, 59, 60, 69, 70}) {
            Check.range("steps of " + weight, Situations::fresh, 0, weight, Check.ARGUMENT,
                (x, steps) -> curve.of(x, 0, weight, 0, steps));
        }
        Check.refused("all wrong", Situations::fresh, Check.ARGUMENT, x -> curve.of(x, 10, 71, -4, 72));
        Check.refused("a wrong weight, and steps up to it", Situations::fresh, Check.ARGUMENT, x -> curve.of(x, 0, 14, 0, 14));
        Check.refused("a wrong weight, and steps up to it", Situations::fresh, Check.ARGUMENT, x -> curve.of(x, 0, 71, 0, 71));
    }

    private static void curve(int aim, int weight, int bias, int steps, int due) {
        WombatBowls x = new WombatBowls();
        String name = "(" + aim + ", " + weight + ", " + bias + ", " + steps + ")";
        Check.sentence(42, "Returns 21 times its row, and its column, together; -1 if it is out by then, or beyond the green.");
        Check.due("curveBySteps" + name, x.curveBySteps(aim, weight, bias, steps), due);
        Check.sentence(43, "Returns the place, the same as by curveBySteps().");
        Check.due("curveByFormula" + name, x.curveByFormula(aim, weight, bias, steps), due);
    }

    private static void curves() {
        curve(0, 15, 0, 0, 10);
        curve(-9, 70, 3, 0, 10);
        curve(0, 15, 0, 1, 31);
        curve(0, 15, 0, 15, 325);
        // the row 59 is the last one of the green
        curve(0, 59, 0, 59, 1249);
        curve(0, 60, 0, 59, 1249);
        curve(0, 60, 0, 60, -1);
        curve(0, 61, 0, 60, -1);
        curve(0, 70, 0, 70, -1);
        // the columns 0 and 20, and one step more
        curve(-5, 70, 0, 21, 441);
        curve(-5, 70, 0, 22, -1);
        curve(5, 70, 0, 20, 440);
        curve(5, 70, 0, 21, -1);
        curve(0, 70, -3, 25, 525);
        curve(0, 70, -3, 26, -1);
        curve(3, 70, 3, 17, 377);
        curve(3, 70, 3, 18, -1);
        // out on its way: at 17 (1050 + 1530 - 459), and for good, though at 59 it would be in the column 10 again
        curve(9, 70, -3, 16, 356);
        curve(9, 70, -3, 17, -1);
        curve(9, 70, -3, 59, -1);
        curve(8, 70, -3, 59, 1243);
        curve(-9, 70, 3, 59, -1);
        curve(-8, 70, 3, 59, 1255);
    }

    /** Both of each aim, bias and count of steps, as the words tell it: out by then, or not. */
    private static void everyCurve() {
        for (int aim = -9; aim <= 9; aim++) {
            for (int bias = -3; bias <= 3; bias++) {
                WombatBowls x = new WombatBowls();
                boolean out = false;
                for (int steps = 0; steps <= 70; steps++) {
                    int column = (int) Math.floor((1050 + 10 * steps * aim + bias * (steps * (steps + 1) / 2)) / 100.0);
                    out = out || column < 0 || column > 20 || steps > 59;
                    int due = out ? -1 : 21 * steps + column;
                    Check.sentence(42, "Tells where a bowl would be on an empty green, step by step.");
                    Check.due("curveBySteps", x.curveBySteps(aim, 70, bias, steps), due);
                    Check.sentence(43, "Tells the same, by a formula for its way to the side, asked of each step up to that one"
                        + " alone for whether it is out.");
                    Check.due("curveByFormula", x.curveByFormula(aim, 70, bias, steps), due);
                }
            }
        }
    }

    private static void windOnCurves() {
        Check.sentence(42, "Tells where a bowl would be on an empty green, step by step.");
        for (int wind = -5; wind <= 5; wind++) {
            WombatBowls x = new WombatBowls();
            x.changeWind(wind);
            // the wind against the aim: straight on
            Check.due("curveBySteps, the wind " + wind, x.curveBySteps(-wind, 30, 0, 30), 640);
            Check.due("curveByFormula, the wind " + wind, x.curveByFormula(-wind, 30, 0, 30), 640);
            int column = 10 + (50 + 150 * wind - (wind < 0 ? 99 : 0)) / 100;
            Check.due("curveBySteps, 15 steps", x.curveBySteps(0, 15, 0, 15), 315 + column);
            Check.due("curveByFormula, 15 steps", x.curveByFormula(0, 15, 0, 15), 315 + column);
        }
        WombatBowls busy = Situations.played();
        Check.due("curveBySteps, on an empty green", busy.curveBySteps(0, 59, 0, 59), 1249);
        Check.due("curveByFormula, on an empty green", busy.curveByFormula(0, 59, 0, 59), 1249);
    }

    private static void playRanges() {
        Supplier<WombatBowls> open = Situations::open;
        Check.sentence(44, "aim: -9 to 9");
        Check.range("wouldCount, the aim", open, -9, 9, Check.ARGUMENT, (x, aim) -> x.wouldCount(aim, 30, 0));
        Check.sentence(44, "weight: 15 to 70");
        Check.range("wouldCount, the weight", open, 15, 70, Check.ARGUMENT, (x, weight) -> x.wouldCount(0, weight, 0));
        Check.sentence(44, "bias: -3 to 3");
        Check.range("wouldCount, the bias", open, -3, 3, Check.ARGUMENT, (x, bias) -> x.wouldCount(0, 30, bias));
        Check.sentence(45, "aim: -9 to 9");
        Check.range("bestWeight, the aim", open, -9, 9, Check.ARGUMENT, (x, aim) -> x.bestWeight(aim, 0));
        Check.sentence(45, "bias: -3 to 3");
        Check.range("bestWeight, the bias", open, -3, 3, Check.ARGUMENT, (x, bias) -> x.bestWeight(0, bias));
        Check.sentence(46, "aim: -9 to 9");
        Check.range("wouldStrike, the aim", open, -9, 9, Check.ARGUMENT, (x, aim) -> x.wouldStrike(aim, 30, 0));
        Check.sentence(46, "weight: 15 to 70");
        Check.range("wouldStrike, the weight", open, 15, 70, Check.ARGUMENT, (x, weight) -> x.wouldStrike(0, weight, 0));
        Check.sentence(46, "bias: -3 to 3");
        Check.range("wouldStrike, the bias", open, -3, 3, Check.ARGUMENT, (x, bias) -> x.wouldStrike(0, 30, bias));
    }

    private static void playStates() {
        String[] none = {"a new object", "all bowls are played", "a burnt end", "burnt by the last bowl",
            "a jack put back behind the last bowl", "a match that is over", "a full buffer"};
        String[] some = {"a jack without bowls", "one bowl to come", "a jack in the ditch, touched", "a jack put back"};
        Check.Call[] right = {x -> x.wouldCount(0, 30, 0), x -> x.bestWeight(0, 0), x -> x.wouldStrike(0, 30, 0),
            x -> x.bestPlay()};
        Check.Call[] wrong = {x -> x.wouldCount(0, 71, 0), x -> x.bestWeight(10, 0), x -> x.wouldStrike(0, 30, -4)};
        for (int call = 0; call < right.length; call++) {
            Check.sentence(44 + call, "Throws IllegalStateException if no bowl can be played");
            for (String one : none) {
                Check.refused("behind " + one, Situations.all().get(one), Check.STATE, right[call]);
            }
            for (String one : some) {
                Check.undoableNot("behind " + one, Situations.all().get(one), right[call]);
            }
            if (call < wrong.length) {
                Check.sentence(44 + call, "Throws IllegalArgumentException if " + (call == 1 ? "aim or bias is out of range"
                    : "aim, weight or bias is out of range"));
                for (String one : none) {
                    Check.refused("wrong, behind " + one, Situations.all().get(one), Check.ARGUMENT, wrong[call]);
                }
            }
        }
    }

    private static void wouldCount() {
        Check.sentence(44, "Returns the points: above 0 for the side that plays next, below 0 for the other one.");
        WombatBowls x = Check.after("j30");
        Check.due("the side 0, alone", x.wouldCount(1, 30, 0), 1);
        Check.due("dead, none", x.wouldCount(5, 21, 0), 0);
        x.play(1, 30, 0);
        Check.due("the side 1, as near", x.wouldCount(-1, 30, 0), 0);
        Check.due("the side 1, 10 to 9", x.wouldCount(-1, 29, 0), -1);
        Check.due("the side 1, 1 to 9", x.wouldCount(0, 29, 0), 1);
        Check.due("the side 1, dead", x.wouldCount(5, 21, 0), -1);
        Check.moves(x, "b9,70,3;b-1,29,0;b9,70,3");
        // 9 and 10 of the side 0; 16 would be a third one
        Check.due("the side 0, three", x.wouldCount(0, 26, 0), 3);
        Check.due("the side 0, dead, two as before", x.wouldCount(9, 70, 3), 2);
        Check.moves(x, OUT);
        Check.due("the side 1, dead: two of the other side", x.wouldCount(9, 70, 3), -2);
        Check.due("the side 1, nearer", x.wouldCount(0, 28, 0), 1);
        // the end counted behind it, though more bowls are to come, or this is the last one
        Check.sentence(44, "Tells which points would be counted, if a bowl was played, and the end counted behind it.");
        WombatBowls last = Check.after("j30;b0,25,0;" + OUT + OUT + OUT + OUT + OUT + OUT);
        Check.due("the last bowl, 25 to 25", last.wouldCount(1, 26, 0), 0);
        Check.due("the last bowl, 18 to 25", last.wouldCount(1, 27, 0), 1);
        Check.due("the last bowl, dead", last.wouldCount(9, 70, 3), -1);
        WombatBowls twice = Check.after("j50;b0,54,0;" + OUT + "b-8,52,3;" + OUT + "b8,64,-3;" + OUT);
        Check.due("a toucher once", twice.wouldCount(-3, 58, 1), 4);
        twice.turnTwice();
        Check.due("touchers twice, eight", twice.wouldCount(-3, 58, 1), 8);
        twice.play(-3, 58, 1);
        Check.due("eight of the other side", twice.wouldCount(9, 70, 3), -8);
    }

    private static void wouldCountInDitch() {
        Check.sentence(44, "Tells which points would be counted, if a bowl was played, and the end counted behind it.");
        WombatBowls x = Check.after(Situations.TO_BURN);
        Check.due("the end would not be burnt", x.wouldCount(-3, 63, 1) != 0, true);
        Check.due("the end would be burnt", x.wouldCount(-3, 64, 1), 0);
        Check.due("isBurnt(), nothing is changed", x.isBurnt(), false);
        Check.due("jackRow(), nothing is changed", x.jackRow(), 59);
        x.turnBack();
        int would = x.wouldCount(-3, 64, 1);
        Check.due("putBack(), nothing is changed", x.putBack(), 0);
        int side = x.turn();
        x.play(-3, 64, 1);
        Check.due("jackRow()", x.jackRow(), 40);
        Check.due("the jack would be put back", would, (x.leader() == side ? 1 : -1) * x.pointsByPairs());
        // by a toucher the end is not burnt
        Check.due("the ditch, touched", Check.after("j50").wouldCount(0, 70, 0), 1);
    }

    private static void bestWeight(String moves, int aim, int bias, int due) {
        WombatBowls x = new WombatBowls();
        if (moves.startsWith("twice;")) {
            x.turnTwice();
        }
        Check.moves(x, moves.replace("twice;", ""));
        Check.due("bestWeight(" + aim + ", " + bias + ") behind " + moves, x.bestWeight(aim, bias), due);
    }

    private static void bestWeight() {
        Check.sentence(45, "Returns the weight with the greatest wouldCount(), of several the least one.");
        // all are alike
        bestWeight("j30", 0, 0, 15);
        bestWeight("j30", 9, 3, 15);
        // one alone is the greatest: the least weight, the next one, the greatest weight
        bestWeight("j50", 6, 1, 15);
        bestWeight("j20;b3,24,1", 4, 3, 16);
        bestWeight("j29;b0,16,1", -1, 2, 70);
        bestWeight("j30;b0,25,0", 1, 0, 27);
        // 14 and 71 would be greater, but are no weights
        bestWeight("j22", 7, 0, 15);
        bestWeight("j24;b0,29,2", 1, 2, 15);
        bestWeight("j28;b2,15,-2", 0, 1, 69);
        WombatBowls beyond = Check.after("j28;b2,15,1");
        int least = beyond.bestWeight(4, -2);
        for (int weight = 15; weight <= 70; weight++) {
            Check.due("0 at the most", beyond.wouldCount(4, weight, -2) <= 0, true);
            Check.due("the least of them", weight >= least || beyond.wouldCount(4, weight, -2) < 0, true);
        }
        // the aims and the biases at the boundary, each with one weight alone that is the greatest
        bestWeight("w2;j49", -9, 0, 15);
        bestWeight("j20;b-1,29,2", -9, 3, 16);
        bestWeight("j20;b3,24,1", 9, -3, 16);
        bestWeight("w-3;j43;b1,15,0", 9, 0, 17);
        bestWeight("j23;b0,59,0", 0, 3, 25);
        bestWeight("j20;b1,16,2", 0, -3, 18);
    }

    private static void wouldStrike() {
        Check.sentence(46, "Returns how often something is struck.");
        WombatBowls x = Check.after("j30");
        Check.due("one step ahead of the jack", x.wouldStrike(0, 29, 0), 0);
        Check.due("the jack", x.wouldStrike(0, 30, 0), 1);
        Check.due("the jack, with steps left", x.wouldStrike(0, 70, 0), 1);
        Check.due("out", x.wouldStrike(9, 70, 3), 0);
        Check.due("the ditch", x.wouldStrike(3, 70, -1), 0);
        Check.due("bowls(), nothing is changed", x.bowls(), 0);
        Check.due("jackRow(), nothing is changed", x.jackRow(), 30);
        x.play(0, 29, 0);
        Check.due("half of 0 strikes nothing more", x.wouldStrike(0, 29, 0), 1);
        Check.due("half of 1 strikes nothing more", x.wouldStrike(0, 30, 0), 1);
        Check.due("half of 2 strikes the jack", x.wouldStrike(0, 31, 0), 2);
        Check.sentence(46, "Tells how many things a bowl would strike, and they would strike, all together.");
        WombatBowls eight = Check.after("j30;b0,29,0;b0,28,0;b0,27,0;b0,26,0;b0,25,0;b0,24,0;b0,23,0");
        // 47 left at 23, 23; 22, 11; 10, 5; 4, 2; 1, 0
        Check.due("five of eight", eight.wouldStrike(0, 70, 0), 5);
        Check.due("one of eight", eight.wouldStrike(0, 23, 0), 1);
        // one thing that is struck is told once, though it was struck by a bowl ahead of this one, too
        WombatBowls y = Check.after("j50;b0,20,0;b0,30,0");
        Check.due("rowOf(0), struck once", y.rowOf(0), 25);
        Check.due("this bowl's strikes alone", y.wouldStrike(0, 19, 0), 1);
        Check.due("this bowl's strikes alone", y.wouldStrike(0, 18, 0), 0);
    }

    private static void bestPlay(String moves, int aim, int bias, int weight) {
        WombatBowls x = new WombatBowls();
        if (moves.startsWith("twice;")) {
            x.turnTwice();
        }
        Check.moves(x, moves.replace("twice;", ""));
        Check.due("bestPlay() behind " + moves, x.bestPlay(), 1000 * (aim + 2) + 100 * (bias + 1) + weight);
    }

    private static void bestPlay() {
        Check.sentence(47, "Returns the one with the greatest wouldCount(), of several the one with the least aim, of these the"
            + " least bias, of these the least weight: 1000 times the aim and 2, together, 100 times the bias and 1,"
            + " together, and the weight, all together.");
        // all are alike: the least of all
        bestPlay("j30", -2, -1, 15);
        bestPlay("w5;j21;b-3,18,-1;b-8,24,0", -2, -1, 15);
        // with the bias -1 it is out, with the bias 0 it lies in the column 0 (1050 - 1050) by 15 steps alone
        bestPlay("w-5;j20", -2, 0, 15);
        // by 15 steps it is as near as the other one, by 16 it is nearer
        bestPlay("w4;j50;b-6,15,1", -2, -1, 16);
        bestPlay("j45;b2,16,2", -2, -1, 16);
        // by 71 steps there would be more
        bestPlay("j48;b2,26,-1;b2,49,0", -2, 0, 42);
        // one alone is the greatest: at the boundary of the aim, of the bias and of the weight
        bestPlay("twice;w4;j26;b-5,25,0", -2, -1, 26);
        bestPlay("w-5;j30;b4,26,1", 2, 1, 30);
        bestPlay("j33;b2,18,2;b1,28,1", 1, 1, 70);
        bestPlay("w-5;j37;b6,44,2;b4,20,1;b2,39,1", 2, 1, 69);
        // several are the greatest: the least aim, then the least weight
        bestPlay("j50;b0,57,0", -2, 1, 51);
        bestPlay("j50;b-3,50,1", 0, 0, 49);
        Check.sentence(47, "Finds the best way to play, with an aim from -2 to 2 and a bias from -1 to 1.");
        // an aim of -3 or 3, a bias of -2 or 2 would bring 2 points, all of these but 1
        beyond("w4", "j20", -3, -3, -1, 1, 15, 70);
        beyond("w-4", "j20", 3, 3, -1, 1, 15, 70);
        beyond("w4", "j49", -2, 2, -2, -2, 15, 70);
        beyond("w-4", "j20", -2, 2, 2, 2, 15, 70);
    }

    /** With touchers that count twice: beyond the range there is a play for 2 points, the best one within it has 1. */
    private static void beyond(String wind, String roll, int aim0, int aim1, int bias0, int bias1, int weight0, int weight1) {
        int most = -9;
        for (int aim = aim0; aim <= aim1; aim++) {
            WombatBowls x = twice(wind + ";" + roll);
            for (int bias = bias0; bias <= bias1; bias++) {
                for (int weight = weight0; weight <= weight1; weight++) {
                    most = Math.max(most, x.wouldCount(aim, weight, bias));
                }
            }
        }
        Check.due("beyond the range, " + wind, most, 2);
        int best = twice(wind + ";" + roll).bestPlay();
        WombatBowls x = twice(wind + ";" + roll);
        Check.due("within the range, " + wind, x.wouldCount(best / 1000 - 2, best % 100, best / 100 % 10 - 1), 1);
    }

    private static WombatBowls twice(String moves) {
        WombatBowls x = Check.after(moves);
        x.turnTwice();
        return x;
    }

    private static void nothingChanged() {
        Check.sentence(44, "Tells which points would be counted, if a bowl was played, and the end counted behind it.");
        for (String name : new String[] {"a jack without bowls", "an end that goes on", "one bowl to come", "a jack put back",
            "a jack in the ditch, touched"}) {
            WombatBowls asked = Situations.all().get(name).get();
            WombatBowls other = Situations.all().get(name).get();
            asked.wouldCount(0, 70, 0);
            asked.wouldCount(-3, 64, 1);
            asked.wouldStrike(0, 70, 0);
            asked.bestWeight(0, 0);
            asked.bestPlay();
            asked.curveBySteps(9, 70, 3, 70);
            asked.curveByFormula(9, 70, 3, 70);
            Check.same("what would be, " + name, asked, other);
        }
    }
}
