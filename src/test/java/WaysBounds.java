/** The boundary cases of 'Terms': the green, the ditch and what is out; ways, and what is struck. */
final class WaysBounds {
    private WaysBounds() {
    }

    static void run() {
        out();
        roundedDown();
        ditch();
        things();
        severalInDitch();
        onePlace();
        stepsAndRows();
        struck();
        ahead();
        halves();
        struckInto();
        straightOn();
        touchers();
    }

    /** The bowl that is played last lies there. */
    private static void lies(String moves, int row, int column) {
        WombatBowls x = Check.after(moves);
        int bowl = x.bowls() - 1;
        Check.due("stateOf() behind " + moves, x.stateOf(bowl), 0);
        Check.due("rowOf() behind " + moves, Check.answer(y -> y.rowOf(bowl), x), row);
        Check.due("columnOf() behind " + moves, Check.answer(y -> y.columnOf(bowl), x), column);
        Check.due("bowlAt() behind " + moves, Check.answer(y -> y.bowlAt(row, column), x), bowl);
    }

    private static void dead(String moves) {
        WombatBowls x = Check.after(moves);
        Check.due("stateOf() behind " + moves, x.stateOf(x.bowls() - 1), 2);
    }

    private static void out() {
        Check.sentence(0, "What comes to a column below 0 or above 20 is out.");
        // 1050 - 1050 is 0, 1050 - 1100 is -50; 1050 + 1000 is 2050, 1050 + 1050 is 2100
        lies("j50;b-5,21,0", 21, 0);
        dead("j50;b-5,22,0");
        lies("j50;b5,20,0", 20, 20);
        dead("j50;b5,21,0");
        // 1050 - 640 - 408 is 2, 1050 - 975 is 75, 1050 - 1053 is -3
        lies("j50;b-4,16,-3", 16, 0);
        lies("j50;b0,25,-3", 25, 0);
        dead("j50;b0,26,-3");
        // 1050 + 640 + 408 is 2098, 1050 + 510 + 459 is 2019, 1050 + 540 + 513 is 2103
        lies("j50;b4,16,3", 16, 20);
        lies("j50;b3,17,3", 17, 20);
        dead("j50;b3,18,3");
        Check.sentence(0, "If that is out, the bowl is dead.");
        // at 26 it is in the column 20 (1050 + 2080 - 1053), and goes on to 460 hundredths
        lies("j50;b8,59,-3", 59, 4);
        // at 17 it is out (1050 + 1530 - 459), though at 59 it would be in the column 10 again
        dead("j50;b9,59,-3");
        dead("j50;b-9,59,3");
        // the wind is as an aim: 14 times 80 is 1120, 4 times 260 is 1040
        dead("w5;j50;b9,15,0");
        lies("w-5;j50;b9,26,0", 26, 20);
        dead("w-5;j50;b9,27,0");
        lies("w-5;j50;b6,59,0", 59, 16);
    }

    private static void roundedDown() {
        Check.sentence(0, "All numbers are integers, but for a mean; divisions are rounded down, to the lesser number also"
            + " below 0.");
        // -50 hundredths are the column -1, not 0; 50 hundredths are the column 0
        dead("j50;b-5,22,0");
        lies("j50;b-5,20,0", 20, 0);
        // 1050 + 150 - 120 is 1080, 1050 - 150 + 120 is 1020, 1050 - 300 is 750
        lies("j50;b1,15,-1", 15, 10);
        lies("j50;b-1,15,1", 15, 10);
        lies("j50;b-2,15,0", 15, 7);
        WombatBowls x = new WombatBowls();
        Check.due("curveBySteps, 50 below 0", x.curveBySteps(-5, 22, 0, 22), -1);
        Check.due("curveByFormula, 50 below 0", x.curveByFormula(-5, 22, 0, 22), -1);
        Check.sentence(0, "With its step s (1, 2, and so on) its row becomes 1 more, and it is in the column"
            + " (1050 + 10 * s * (aim + wind) + bias * s * (s + 1) / 2) / 100, with s * (s + 1) / 2 taken first.");
        // 3 times 120 is 360: 1050 - 750 + 360 is 660; of the bias -3 and 16 steps it is 1050 + 640 - 408, 1282
        lies("w-2;j50;b-3,15,3", 15, 6);
        lies("w1;j50;b3,16,-3", 16, 12);
        Check.due("the step 1, 1050 - 90 - 3 is 957", x.curveBySteps(-9, 15, -3, 1), 30);
        Check.due("the step 1, 1050 - 50 is 1000", x.curveByFormula(-5, 15, 0, 1), 31);
        Check.due("the step 1, 1050 - 50 - 1 is 999", x.curveByFormula(-5, 15, -1, 1), 30);
        Check.due("the step 1, 1050 + 50 is 1100", x.curveBySteps(5, 15, 0, 1), 32);
        Check.due("the step 1, 1050 + 50 - 1 is 1099", x.curveBySteps(5, 15, -1, 1), 31);
    }

    private static void ditch() {
        Check.sentence(0, "The green has rows 0 to 59 and columns 0 to 20; the row 60 is the ditch.");
        lies("j30;b3,59,-1", 59, 10);
        dead("j30;b3,60,-1");
        dead("j30;b3,70,-1");
        lies("j30;b2,52,0;b2,51,0", 51, 20);
        WombatBowls right = Check.after("j30;b2,52,0;b2,67,0");
        Check.due("bowlAt(59, 20)", Check.answer(x -> x.bowlAt(59, 20), right), 0);
        Check.due("stateOf(0)", right.stateOf(0), 0);
        WombatBowls left = Check.after("j30;b-2,52,0;b-2,67,0");
        Check.due("bowlAt(59, 0)", Check.answer(x -> x.bowlAt(59, 0), left), 0);
        Check.due("stateOf(0)", left.stateOf(0), 0);
        Check.sentence(0, "Otherwise, if the row is 60, it comes to the ditch, and its way is over: it lies there, if it is"
            + " a toucher, otherwise it is dead.");
        // what lies in the ditch already is not struck by it
        WombatBowls x = Check.after("j50;b0,70,0");
        Check.due("jackRow()", x.jackRow(), 60);
        // at 60 it is in the jack's column (1050 + 1800 - 1830)
        Check.due("wouldStrike, into the ditch", x.wouldStrike(3, 70, -1), 0);
        x.play(3, 70, -1);
        Check.due("stateOf(1)", x.stateOf(1), 2);
        Check.due("isToucher(1), the jack in the ditch is not struck", x.isToucher(1), false);
    }

    private static void things() {
        Check.sentence(0, "A thing is the jack, or a bowl that is not dead; on the green there is one thing at a place at"
            + " the most; in the ditch there may be several.");
        // bowl 0 is struck into the ditch and dead: its place is free again
        WombatBowls x = Check.after("j30;b3,59,-1;b3,61,-1");
        Check.due("stateOf(0)", x.stateOf(0), 2);
        Check.due("stateOf(1)", x.stateOf(1), 0);
        Check.refused("bowlAt(59, 10)", () -> Check.after("j30;b3,59,-1;b3,61,-1"), Check.STATE, y -> y.bowlAt(59, 10));
        // at 58 it is in the column 11 (1050 + 3480 - 3422), at 59 in the column 10
        Check.due("wouldStrike(6, 59, -2), nothing lies there", x.wouldStrike(6, 59, -2), 0);
        x.play(6, 59, -2);
        Check.due("bowlAt(59, 10) of another bowl", Check.answer(y -> y.bowlAt(59, 10), x), 2);
        // a bowl that is out is in nobody's way
        WombatBowls y = Check.after("j50;b-5,22,0;b-5,21,0;b-5,20,0");
        Check.due("stateOf(2)", y.stateOf(2), 0);
        Check.due("rowOf(2)", y.rowOf(2), 20);
        Check.sentence(0, "A bowl that is played begins in the row 0 and the column 10 (where it is in nobody's way), with as"
            + " many steps as its weight.");
        Check.due("steps 0", x.curveBySteps(0, 15, 0, 0), 10);
        lies("j50;b0,15,0", 15, 10);
        lies("j50;b0,49,0", 49, 10);
        // eight one behind the other, the row 8 is the last one that is left
        WombatBowls z = Check.after("j30");
        for (int bowl = 0; bowl < 8; bowl++) {
            Check.due("wouldStrike", z.wouldStrike(0, 15, 0) > 0, bowl > 0);
            z.play(0, 15, 0);
            Check.due("rowOf()", z.rowOf(bowl), 15 - bowl);
        }
    }

    private static void severalInDitch() {
        Check.sentence(0, "A thing is the jack, or a bowl that is not dead; on the green there is one thing at a place at"
            + " the most; in the ditch there may be several.");
        // 16 are left at 52, 8 for the toucher that lies there: it comes to the place where the jack is
        WombatBowls x = Check.after("j48;b5,58,-2;b0,70,0;b0,68,0");
        Check.due("stateOf(1), in the ditch", x.stateOf(1), 1);
        Check.due("rowOf(1)", x.rowOf(1), 60);
        Check.due("columnOf(1)", x.columnOf(1), 10);
        Check.due("jackRow()", x.jackRow(), 60);
        Check.due("jackColumn()", x.jackColumn(), 10);
        Check.due("distanceOf(1), both at one place", x.distanceOf(1), 0);
        Check.due("nearest(0)", x.nearest(0), 1);
        WombatBowls two = Check.after("j50;b0,66,0;b-3,60,1;b-3,63,1;b6,59,-2;b6,62,-2");
        Check.due("stateOf(1), in the ditch", two.stateOf(1), 1);
        Check.due("stateOf(3), in the ditch", two.stateOf(3), 1);
        Check.due("columnOf(1)", two.columnOf(1), 9);
        Check.due("columnOf(3)", two.columnOf(3), 11);
        Check.due("jackRow(), on the green", two.jackRow(), 59);
        Check.due("distanceOf(1)", two.distanceOf(1), 2);
        Check.due("distanceOf(3)", two.distanceOf(3), 2);
        Check.due("isBurnt(), the jack is not in the ditch", two.isBurnt(), false);
        Check.due("leader()", two.leader(), 1);
        Check.due("pointsByPairs(), both from the ditch", two.pointsByPairs(), 2);
    }

    /** Long rows of bowls that strike one another: never two of them at one place, and none at the jack's. */
    private static void onePlace() {
        Check.sentence(0, "on the green there is one thing at a place at the most");
        for (int run = 0; run < 40; run++) {
            WombatBowls x = new WombatBowls();
            x.roll(20 + run * 7 % 31);
            for (int bowl = 0; bowl < 8 && !x.isBurnt(); bowl++) {
                x.play((run * 5 + bowl * 3) % 5 - 2, 30 + (run * 11 + bowl * 13) % 41, (run + bowl) % 3 - 1);
                for (int other = 0; other <= bowl; other++) {
                    if (x.stateOf(other) == 0) {
                        Check.due("run " + run + ", bowlAt()", x.bowlAt(x.rowOf(other), x.columnOf(other)), other);
                        Check.due("run " + run + ", at the jack", x.distanceOf(other) > 0, true);
                    }
                }
            }
        }
    }

    private static void stepsAndRows() {
        Check.sentence(0, "Otherwise it is there, and goes on, if it has steps left; if not, it lies there.");
        lies("j50;b0,16,0", 16, 10);
        lies("j50;b0,48,0", 48, 10);
        lies("j20;b3,21,-1", 21, 14);
        Check.sentence(0, "Otherwise, if there is another thing at that place, it strikes it, and stays at the place where it"
            + " was ahead of this step (if that is the row 0, it is dead); its way is over.");
        // the jack at 50: by 49 it is not struck, by 50 it is, and the bowl stays at 49
        WombatBowls x = Check.after("j50;b0,49,0");
        Check.due("isToucher(0), one step ahead of it", x.isToucher(0), false);
        lies("j50;b0,50,0", 49, 10);
        Check.due("isToucher(0)", Check.after("j50;b0,50,0").isToucher(0), true);
        // bowl 0 at 59 and 10; the bowl comes from 58 and 10, with 58 steps from 57 and 11 (1050 + 1710 - 1653)
        lies("j30;b3,59,-1;b3,59,-1", 58, 10);
        lies("j30;b3,58,-1;b3,58,-1", 57, 11);
        // a bowl beside it is not struck
        lies("j30;b0,25,0;b-2,25,1", 25, 8);
        Check.due("wouldStrike, two columns beside", Check.after("j30;b0,25,0").wouldStrike(-2, 25, 1), 0);
    }

    /** By half of the steps that are left, of 0 and 1 none. */
    private static void struck() {
        Check.sentence(0, "What is struck goes straight on, in its column, row by row, by half of the steps that the striking"
            + " thing had yet, this step not counted; if it has none, it stays.");
        int[] rows = {20, 20, 21, 21, 22, 22};
        for (int left = 0; left < rows.length; left++) {
            WombatBowls x = Check.after("j50;b0,20,0");
            Check.due("wouldStrike, " + left + " are left", x.wouldStrike(0, 20 + left, 0), 1);
            x.play(0, 20 + left, 0);
            Check.due("rowOf(0), " + left + " are left", x.rowOf(0), rows[left]);
            Check.due("columnOf(0)", x.columnOf(0), 10);
            Check.due("rowOf(1)", x.rowOf(1), 19);
        }
        // the jack likewise
        for (int left = 0; left < rows.length; left++) {
            WombatBowls x = Check.after("j20");
            x.play(0, 20 + left, 0);
            Check.due("jackRow(), " + left + " are left", x.jackRow(), rows[left]);
        }
        // a bowl that comes from the side: what is struck goes straight on, too
        WombatBowls side = Check.after("j50;b2,30,-1");
        Check.due("columnOf(0), 1050 + 600 - 465", side.columnOf(0), 11);
        side.play(5, 40, -3);
        Check.due("rowOf(0), not struck (1050 + 1500 - 1395)", side.rowOf(0), 35);
        Check.due("columnOf(0)", side.columnOf(0), 11);
    }

    private static void ahead() {
        Check.sentence(0, "On its way it comes to the ditch, or strikes another thing, likewise: it stays ahead of that, which"
            + " goes on by half of the steps that are left then.");
        // bowls at 20 and 21: h steps for the one at 20, (h - 1) / 2 for the one at 21
        int[][] due = {{0, 21, 1}, {1, 21, 1}, {2, 21, 2}, {3, 21, 2}, {4, 21, 2}, {5, 21, 2}, {6, 22, 2}, {7, 22, 2},
            {10, 23, 2}};
        for (int[] one : due) {
            WombatBowls x = Check.after("j50;b0,21,0;b0,20,0");
            Check.due("wouldStrike, " + one[0] + " are left", x.wouldStrike(0, 20 + one[0], 0), one[2]);
            x.play(0, 20 + one[0], 0);
            Check.due("rowOf(0), " + one[0] + " are left", x.rowOf(0), one[1]);
            Check.due("rowOf(1), it stays ahead", x.rowOf(1), 20);
            Check.due("rowOf(2)", x.rowOf(2), 19);
        }
        // with two rows between them: 2 steps do not reach it, 3 do, and it stays at the place ahead
        WombatBowls near = Check.after("j50;b0,23,0;b0,20,0;b0,24,0");
        Check.due("rowOf(1), 2 of 4", near.rowOf(1), 22);
        Check.due("rowOf(0), not struck", near.rowOf(0), 23);
        WombatBowls far = Check.after("j50;b0,23,0;b0,20,0;b0,26,0");
        Check.due("rowOf(1), 3 of 6, ahead of 23", far.rowOf(1), 22);
        Check.due("rowOf(0), half of 0", far.rowOf(0), 23);
        WombatBowls further = Check.after("j50;b0,23,0;b0,20,0;b0,30,0");
        Check.due("rowOf(1), 5 of 10", further.rowOf(1), 22);
        Check.due("rowOf(0), half of 2", further.rowOf(0), 24);
    }

    private static void halves() {
        Check.sentence(0, "All numbers are integers, but for a mean; divisions are rounded down");
        // 50 left, 25; 24 behind one step, 12; 11, 5; 4, 2; 1, 0: bowls at 20 to 24 in one column
        WombatBowls x = Check.after("j50;b0,24,0;b0,23,0;b0,22,0;b0,21,0;b0,20,0");
        Check.due("wouldStrike(0, 70, 0)", x.wouldStrike(0, 70, 0), 5);
        x.play(0, 70, 0);
        int[] rows = {24, 23, 22, 21, 20, 19};
        for (int bowl = 0; bowl < rows.length; bowl++) {
            Check.due("rowOf " + bowl, x.rowOf(bowl), rows[bowl]);
        }
    }

    private static void struckInto() {
        Check.sentence(0, "A bowl that comes to the ditch so is dead, unless it is a toucher; the jack lies there.");
        // from 59: half of 1 is none, half of 2 is one
        Check.due("stateOf(0), half of 1", Check.after("j30;b3,59,-1;b3,60,-1").stateOf(0), 0);
        Check.due("stateOf(0), half of 2", Check.after("j30;b3,59,-1;b3,61,-1").stateOf(0), 2);
        // from 52: 7 rows are the row 59, 8 the ditch; no toucher, then a toucher
        Check.due("rowOf(0), 7 rows", Check.after("j30;b2,52,0;b2,67,0").rowOf(0), 59);
        Check.due("stateOf(0), 8 rows", Check.after("j30;b2,52,0;b2,68,0").stateOf(0), 2);
        Check.due("rowOf(0), 7 rows in the column 0", Check.after("j30;b-2,52,0;b-2,67,0").rowOf(0), 59);
        Check.due("stateOf(0), 8 rows in the column 0", Check.after("j30;b-2,52,0;b-2,68,0").stateOf(0), 2);
        Check.due("stateOf(0), more than 8 rows in the column 0", Check.after("j30;b-2,52,0;b-2,70,0").stateOf(0), 2);
        WombatBowls seven = Check.after("j48;b5,58,-2;b0,70,0;b0,67,0");
        Check.due("isToucher(1)", seven.isToucher(1), true);
        Check.due("stateOf(1), 7 rows", seven.stateOf(1), 0);
        Check.due("rowOf(1), 7 rows", seven.rowOf(1), 59);
        WombatBowls eight = Check.after("j48;b5,58,-2;b0,70,0;b0,68,0");
        Check.due("stateOf(1), 8 rows", eight.stateOf(1), 1);
        Check.due("rowOf(1), 8 rows", eight.rowOf(1), 60);
        Check.due("wouldStrike, what is left of the steps strikes nothing", Check.after("j48;b5,58,-2;b0,70,0")
            .wouldStrike(0, 70, 0), 1);
        // the jack from 50: 9 rows are the row 59, 10 the ditch
        Check.due("jackRow(), half of 19", Check.after("j50;b0,69,0").jackRow(), 59);
        WombatBowls jack = Check.after("j50;b0,70,0");
        Check.due("jackRow(), half of 20", jack.jackRow(), 60);
        Check.due("jackColumn()", jack.jackColumn(), 10);
        Check.due("isJackThere()", jack.isJackThere(), true);
    }

    private static void straightOn() {
        Check.sentence(0, "Nothing that goes straight on is ever out.");
        // in the columns 20 and 0: half of 4, of 15 and of 36
        int[] weights = {24, 35, 56};
        int[] rows = {22, 27, 38};
        for (int one = 0; one < weights.length; one++) {
            for (int aim = -5; aim <= 5; aim += 10) {
                WombatBowls x = Check.after("j50;b" + aim + ",20,0;b" + aim + "," + weights[one] + ",0");
                Check.due("stateOf(0)", x.stateOf(0), 0);
                Check.due("rowOf(0)", x.rowOf(0), rows[one]);
                Check.due("columnOf(0)", x.columnOf(0), aim < 0 ? 0 : 20);
            }
        }
    }

    private static void touchers() {
        Check.sentence(0, "A bowl that strikes the jack as it is played is a toucher, and one that strikes a bowl that does so"
            + " is not.");
        // bowl 0 lies ahead of the jack and is struck on to it: neither of both is a toucher
        WombatBowls x = Check.after("j30;b0,29,0;b0,31,0");
        Check.due("wouldStrike", Check.after("j30;b0,29,0").wouldStrike(0, 31, 0), 2);
        Check.due("isToucher(0)", x.isToucher(0), false);
        Check.due("isToucher(1)", x.isToucher(1), false);
        Check.due("touchers()", x.touchers(), 0);
        Check.sentence(0, "(A bowl strikes the jack only if it comes to its place itself.)");
        // one weight less: it does not come to the jack's place
        Check.due("isToucher(0), 29 steps", Check.after("j30;b0,29,0").isToucher(0), false);
        Check.due("isToucher(0), 30 steps", Check.after("j30;b0,30,0").isToucher(0), true);
        Check.due("isToucher(0), beside", Check.after("j30;b1,35,0").isToucher(0), false);
        // a toucher is one for good: it strikes no more, is struck, and lies in the ditch
        WombatBowls y = Check.after("j30;b0,30,0;b0,40,0");
        Check.due("isToucher(0), struck since", y.isToucher(0), true);
        Check.due("isToucher(1), it struck the toucher", y.isToucher(1), false);
        WombatBowls z = Check.after("j48;b5,58,-2;b0,70,0;b0,68,0");
        Check.due("isToucher(1), in the ditch", z.isToucher(1), true);
        Check.due("touchers()", z.touchers(), 2);
    }
}
