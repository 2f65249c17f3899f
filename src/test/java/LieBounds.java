import java.util.LinkedHashMap;
import java.util.Map;
import java.util.function.Supplier;

/** The boundary cases of the promises 18 to 34: the end as it is. */
final class LieBounds {
    private static final String PLAYED = "0 for the first one that was played in this end";
    private static final String THROWS = "Throws IndexOutOfBoundsException if not so many bowls were played in this end,"
        + " or bowl is below 0";

    private LieBounds() {
    }

    static void run() {
        jack();
        isBurnt();
        bowls();
        turn();
        ofBowls();
        states();
        deadBowls();
        distances();
        places();
    }

    private static void jack() {
        Check.sentence(18, "Returns true if so; false if it is to be rolled.");
        Check.sentence(18, "Tells whether the jack lies, on the green or in the ditch.");
        Map<String, Supplier<WombatBowls>> all = Situations.all();
        for (Map.Entry<String, Supplier<WombatBowls>> one : all.entrySet()) {
            boolean none = one.getKey().equals("a new object") || one.getKey().equals("a match that is over")
                || one.getKey().equals("a full buffer");
            WombatBowls x = one.getValue().get();
            Check.due("isJackThere() of " + one.getKey(), x.isJackThere(), !none);
            if (none) {
                Check.sentence(19, "Throws IllegalStateException if it does not lie");
                Check.refused("jackRow() of " + one.getKey(), one.getValue(), Check.STATE, y -> y.jackRow());
                Check.sentence(20, "Throws IllegalStateException if it does not lie");
                Check.refused("jackColumn() of " + one.getKey(), one.getValue(), Check.STATE, y -> y.jackColumn());
            }
        }
        Check.sentence(19, "Returns 0 to 60.");
        Check.due("jackRow(), the least", Check.after("j20").jackRow(), 20);
        Check.due("jackRow(), the last row of the green", Check.after("j50;b0,69,0").jackRow(), 59);
        Check.due("jackRow(), the ditch", Check.after("j50;b0,70,0").jackRow(), 60);
        Check.sentence(20, "Returns 0 to 20.");
        Check.due("jackColumn(), rolled", Check.after("j20").jackColumn(), 10);
        Check.due("jackColumn(), struck from the side", Check.after("j50;b-8,66,3").jackColumn(), 10);
        Check.due("jackColumn(), the ditch", Check.after("j50;b0,70,0").jackColumn(), 10);
    }

    private static void isBurnt() {
        Check.sentence(21, "Returns true if so.");
        for (Map.Entry<String, Supplier<WombatBowls>> one : Situations.all().entrySet()) {
            boolean due = one.getKey().equals("a burnt end") || one.getKey().equals("burnt by the last bowl");
            Check.due("isBurnt() of " + one.getKey(), one.getValue().get().isBurnt(), due);
        }
        WombatBowls x = Situations.burnt();
        x.count();
        Check.due("isBurnt(), counted", x.isBurnt(), false);
    }

    private static void bowls() {
        Check.sentence(22, "Returns how many bowls were played in this end. Returns the bowls.");
        WombatBowls x = new WombatBowls();
        Check.due("bowls(), no end", x.bowls(), 0);
        x.roll(30);
        for (int bowl = 0; bowl <= 7; bowl++) {
            Check.due("bowls()", x.bowls(), bowl);
            x.play(bowl % 2 == 0 ? 9 : 0, 70, bowl % 2 == 0 ? 3 : 0);
        }
        Check.due("bowls(), dead ones too", x.bowls(), 8);
        Check.thrown("play, the ninth", x, Check.STATE, () -> x.play(0, 30, 0));
        Check.due("bowls(), eight", x.bowls(), 8);
        x.undo();
        Check.due("bowls(), undone", x.bowls(), 7);
        x.play(0, 20, 0);
        x.count();
        Check.due("bowls(), counted", x.bowls(), 0);
        Check.sentence(23, "Returns 1 to 4.");
        WombatBowls y = new WombatBowls();
        Check.due("bowlsOfSide(), at first", y.bowlsOfSide(), 4);
        for (int each = 1; each <= 4; each++) {
            y.changeBowls(each);
            Check.due("bowlsOfSide()", y.bowlsOfSide(), each);
        }
    }

    private static void turn() {
        Check.sentence(24, "Throws IllegalStateException if no bowl can be played");
        for (String one : new String[] {"a new object", "all bowls are played", "a burnt end", "burnt by the last bowl",
            "a jack put back behind the last bowl", "a match that is over"}) {
            Check.refused("turn() of " + one, Situations.all().get(one), Check.STATE, x -> x.turn());
        }
        Check.sentence(24, "Returns 0 or 1.");
        Check.due("turn(), a jack without bowls", Situations.rolled().turn(), 1);
        Check.due("turn(), one bowl to come", Situations.oneToCome().turn(), 0);
        Check.due("turn(), touched, four are played", Situations.touched().turn(), 1);
        Check.due("turn(), the jack is put back, seven are played", Situations.putBack().turn(), 0);
    }

    /** Both sides of the count of bowls, for each call that is asked for a bowl. */
    private static void ofBowls() {
        Map<Integer, Check.Move> calls = new LinkedHashMap<>();
        calls.put(25, (x, bowl) -> x.sideOf(bowl));
        calls.put(26, (x, bowl) -> x.stateOf(bowl));
        calls.put(27, (x, bowl) -> x.rowOf(bowl));
        calls.put(28, (x, bowl) -> x.columnOf(bowl));
        calls.put(29, (x, bowl) -> x.isToucher(bowl));
        calls.put(30, (x, bowl) -> x.distanceOf(bowl));
        calls.put(32, (x, bowl) -> x.aimOf(bowl));
        calls.put(33, (x, bowl) -> x.weightOf(bowl));
        calls.put(34, (x, bowl) -> x.biasOf(bowl));
        for (Map.Entry<Integer, Check.Move> one : calls.entrySet()) {
            Check.sentence(one.getKey(), PLAYED);
            Check.sentence(one.getKey(), THROWS);
            Check.Move call = one.getValue();
            Supplier<WombatBowls> fresh = Situations::fresh;
            for (int bowl : new int[] {0, -1, 1, Integer.MAX_VALUE, Integer.MIN_VALUE}) {
                Check.refused("no end, bowl " + bowl, fresh, Check.INDEX, x -> call.on(x, bowl));
                Check.refused("no bowls, bowl " + bowl, Situations::rolled, Check.INDEX, x -> call.on(x, bowl));
            }
            Check.range("one bowl", () -> Check.after("j30;b1,20,0"), 0, 0, call);
            Check.range("two bowls", () -> Check.after("j30;b1,20,0;b-1,21,1"), 0, 1, call);
            Check.range("eight bowls", () -> Check.after("j50;b0,15,0;b0,16,-1;b1,20,0;b-1,21,0;b2,22,0;b-2,23,0;b3,24,0;"
                + "b-3,25,0"), 0, 7, call);
            Check.refused("the end is counted", () -> {
                WombatBowls x = Situations.played();
                x.count();
                return x;
            }, Check.INDEX, x -> call.on(x, 0));
            Check.refused("another match", () -> {
                WombatBowls x = Situations.played();
                x.begin(3);
                return x;
            }, Check.INDEX, x -> call.on(x, 0));
        }
        answers();
    }

    /** What was played last or first is not mixed up with the others. */
    private static void answers() {
        int[][] played = {{-9, 70, 3}, {9, 15, -3}, {0, 20, 0}, {-1, 69, 1}, {1, 16, -1}, {8, 59, -3}, {-8, 30, 2}, {4, 44, 1}};
        WombatBowls x = Check.after("j50");
        for (int[] one : played) {
            x.play(one[0], one[1], one[2]);
        }
        for (int bowl = 0; bowl < 8; bowl++) {
            Check.sentence(25, "Returns 0 or 1.");
            Check.due("sideOf " + bowl, x.sideOf(bowl), bowl % 2);
            Check.sentence(32, "Returns the aim.");
            Check.due("aimOf " + bowl, x.aimOf(bowl), played[bowl][0]);
            Check.sentence(33, "Returns the weight.");
            Check.due("weightOf " + bowl, x.weightOf(bowl), played[bowl][1]);
            Check.sentence(34, "Returns the bias.");
            Check.due("biasOf " + bowl, x.biasOf(bowl), played[bowl][2]);
        }
        WombatBowls second = Situations.rolled();
        second.play(0, 20, 0);
        Check.sentence(25, "Returns 0 or 1.");
        Check.due("sideOf(0), the side 1 plays first", second.sideOf(0), 1);
    }

    private static void states() {
        Check.sentence(26, "Returns 0 it lies on the green, 1 it lies in the ditch, 2 it is dead.");
        // the corners of the green that a bowl comes to
        Check.due("stateOf(0), 59 and 20", Check.after("j30;b2,52,0;b2,67,0").stateOf(0), 0);
        Check.due("stateOf(0), 59 and 0", Check.after("j30;b-2,52,0;b-2,67,0").stateOf(0), 0);
        Check.due("stateOf(0), struck into the ditch", Check.after("j30;b2,52,0;b2,68,0").stateOf(0), 2);
        Check.due("stateOf(0), out", Check.after("j30;b5,21,0").stateOf(0), 2);
        Check.due("stateOf(1), a toucher at 59", Check.after("j48;b5,58,-2;b0,70,0;b0,67,0").stateOf(1), 0);
        Check.due("stateOf(1), a toucher at 60", Check.after("j48;b5,58,-2;b0,70,0;b0,68,0").stateOf(1), 1);
        Check.sentence(29, "Returns true if so.");
        Check.due("isToucher(0), one step ahead", Check.after("j30;b0,29,0").isToucher(0), false);
        Check.due("isToucher(0), its place", Check.after("j30;b0,30,0").isToucher(0), true);
        Check.due("isToucher(1), through a bowl", Check.after("j30;b0,29,0;b0,70,0").isToucher(1), false);
        Check.due("isToucher(0), dead", Check.after("j30;b5,21,0").isToucher(0), false);
    }

    private static void deadBowls() {
        Supplier<WombatBowls> out = () -> Check.after("j30;b5,20,0;b5,21,0");
        Supplier<WombatBowls> struck = () -> Check.after("j30;b2,52,0;b2,68,0");
        Check.sentence(27, "Throws IllegalStateException if it is dead");
        Check.refused("rowOf(0), struck into the ditch", struck, Check.STATE, x -> x.rowOf(0));
        Check.refused("rowOf(0), out", () -> Check.after("j30;b5,21,0"), Check.STATE, x -> x.rowOf(0));
        Check.sentence(28, "Throws IllegalStateException if it is dead");
        Check.refused("columnOf(0), struck into the ditch", struck, Check.STATE, x -> x.columnOf(0));
        Check.refused("columnOf(0), out", () -> Check.after("j30;b5,21,0"), Check.STATE, x -> x.columnOf(0));
        Check.sentence(30, "Throws IllegalStateException if it is dead, or the jack does not lie");
        Check.refused("distanceOf(0), struck into the ditch", struck, Check.STATE, x -> x.distanceOf(0));
        Check.refused("distanceOf(0), out", () -> Check.after("j30;b5,21,0"), Check.STATE, x -> x.distanceOf(0));
        // what is dead is told of in the other calls
        WombatBowls x = struck.get();
        Check.due("aimOf(0)", x.aimOf(0), 2);
        Check.due("weightOf(0)", x.weightOf(0), 52);
        Check.due("biasOf(0)", x.biasOf(0), 0);
        Check.due("sideOf(0)", x.sideOf(0), 0);
        Check.due("isToucher(0)", x.isToucher(0), false);
        WombatBowls y = out.get();
        Check.due("rowOf(0), it strikes nothing that is dead", y.rowOf(0), 20);
        Check.sentence(27, "Returns 0 to 60.");
        Check.due("rowOf(1), the ditch", Check.after("j48;b5,58,-2;b0,70,0;b0,68,0").rowOf(1), 60);
        Check.due("rowOf(0), the last row of the green", Check.after("j30;b3,59,-1").rowOf(0), 59);
        Check.due("rowOf(7), the least", Check.after("j30;b0,15,0;b0,15,0;b0,15,0;b0,15,0;b0,15,0;b0,15,0;b0,15,0;b0,15,0")
            .rowOf(7), 8);
        Check.sentence(28, "Returns 0 to 20.");
        Check.due("columnOf(0), 0", Check.after("j30;b-5,21,0").columnOf(0), 0);
        Check.due("columnOf(0), 20", Check.after("j30;b5,20,0").columnOf(0), 20);
        Check.due("columnOf(1), the ditch", Check.after("j48;b5,58,-2;b0,70,0;b0,68,0").columnOf(1), 10);
    }

    private static void distances() {
        Check.sentence(30, "Returns the squares of the differences of rows and columns, together.");
        Check.due("the next place", Check.after("j30;b0,29,0").distanceOf(0), 1);
        Check.due("beside, the column 13", Check.after("j30;b1,30,0").distanceOf(0), 9);
        Check.due("beside, the column 7", Check.after("j30;b-1,30,0").distanceOf(0), 9);
        Check.due("ahead and behind", Check.after("j30;b1,28,0").distanceOf(0), 13);
        Check.due("behind it", Check.after("j30;b1,32,0").distanceOf(0), 13);
        // the row 59 and the column 0, the jack at 20: 39 rows, 10 columns
        Check.due("far away", Check.after("j20;b-2,52,0;b-2,67,0").distanceOf(0), 1621);
        // the jack in the ditch: its row is 60
        Check.due("the jack in the ditch", Check.after("j50;b0,70,0").distanceOf(0), 121);
        Check.due("both in the ditch", Check.after("j48;b5,58,-2;b0,70,0;b0,68,0").distanceOf(1), 0);
        Check.due("the bowl in the ditch", Check.after("j50;b0,66,0;b-3,60,1;b-3,63,1").distanceOf(1), 2);
    }

    private static void places() {
        Check.sentence(31, "row: 0 to 59");
        Supplier<WombatBowls> corner = () -> Check.after("j30;b2,52,0;b2,67,0");
        for (int row : new int[] {-1, 60, 61, Integer.MIN_VALUE, Integer.MAX_VALUE}) {
            Check.refused("bowlAt, the row " + row, corner, Check.INDEX, x -> x.bowlAt(row, 10));
        }
        for (int row : new int[] {0, 1, 58}) {
            Check.refused("bowlAt, the row " + row, corner, Check.STATE, x -> x.bowlAt(row, 20));
        }
        Check.due("bowlAt(59, 20)", corner.get().bowlAt(59, 20), 0);
        Check.sentence(31, "column: 0 to 20");
        for (int column : new int[] {-1, 21, 22, Integer.MIN_VALUE, Integer.MAX_VALUE}) {
            Check.refused("bowlAt, the column " + column, corner, Check.INDEX, x -> x.bowlAt(59, column));
        }
        for (int column : new int[] {0, 1, 19}) {
            Check.refused("bowlAt, the column " + column, corner, Check.STATE, x -> x.bowlAt(59, column));
        }
        Check.due("bowlAt(52, 0)", Check.after("j30;b-2,52,0").bowlAt(52, 0), 0);
        Check.sentence(31, "Throws IndexOutOfBoundsException if there is no such place");
        Check.refused("bowlAt, no end", Situations::fresh, Check.INDEX, x -> x.bowlAt(60, 0));
        Check.refused("bowlAt, no end", Situations::fresh, Check.INDEX, x -> x.bowlAt(0, 21));
        Check.refused("bowlAt, both are wrong", Situations::fresh, Check.INDEX, x -> x.bowlAt(-1, -1));
        Supplier<WombatBowls> inDitch = () -> Check.after("j48;b5,58,-2;b0,70,0;b0,68,0");
        Check.refused("bowlAt, a bowl in the ditch", inDitch, Check.INDEX, x -> x.bowlAt(60, 10));
        Check.sentence(31, "Throws IllegalStateException if no bowl lies there");
        Check.refused("bowlAt, no end", Situations::fresh, Check.STATE, x -> x.bowlAt(0, 0));
        Check.refused("bowlAt, no end", Situations::fresh, Check.STATE, x -> x.bowlAt(59, 20));
        Check.refused("bowlAt, the jack", () -> Check.after("j30;b0,29,0"), Check.STATE, x -> x.bowlAt(30, 10));
        Check.refused("bowlAt, dead", () -> Check.after("j30;b5,21,0"), Check.STATE, x -> x.bowlAt(20, 20));
        Check.refused("bowlAt, where it was", () -> Check.after("j50;b0,20,0;b0,22,0"), Check.STATE, x -> x.bowlAt(20, 10));
        Check.sentence(31, "Returns the bowl.");
        WombatBowls x = Check.after("j50;b0,20,0;b0,22,0;b9,70,3;b1,20,0;b-1,20,0");
        Check.due("bowlAt(21, 10)", x.bowlAt(21, 10), 0);
        Check.due("bowlAt(19, 10)", x.bowlAt(19, 10), 1);
        Check.due("bowlAt(20, 12)", x.bowlAt(20, 12), 3);
        Check.due("bowlAt(20, 8)", x.bowlAt(20, 8), 4);
    }
}
