import java.util.function.Consumer;

/** Promises 14 to 17: snapshots and undo. */
public final class UndoTest {
    public static void main(String[] args) {
        slots();
        snapshotOfAll();
        sixStates();
        undoOfEach();
        notUndoable();
        Check.end("UndoTest");
    }

    private static void slots() {
        WombatBowls x = new WombatBowls();
        for (int slot : new int[] {-1, 2, Integer.MAX_VALUE, Integer.MIN_VALUE}) {
            Check.thrown("keep " + slot, x, Check.ARGUMENT, () -> x.keep(slot));
            Check.thrown("goBack " + slot, x, Check.ARGUMENT, () -> x.goBack(slot));
        }
        Check.thrown("goBack(0), empty", x, Check.STATE, () -> x.goBack(0));
        x.changeWind(1);
        x.keep(0);
        Check.thrown("goBack(1), empty", x, Check.STATE, () -> x.goBack(1));
        x.changeWind(2);
        x.keep(1);
        x.changeWind(3);
        x.goBack(0);
        Check.due("wind() of the slot 0", x.wind(), 1);
        x.goBack(1);
        Check.due("wind() of the slot 1", x.wind(), 2);
        x.changeWind(4);
        x.goBack(0);
        Check.due("wind(), the snapshot stays", x.wind(), 1);
        x.changeWind(5);
        x.keep(0);
        x.changeWind(0);
        x.goBack(0);
        Check.due("wind(), in place of the other one", x.wind(), 5);
    }

    /** A snapshot is all but the buffer, the slots and the saved states, and no part of what goes on. */
    private static void snapshotOfAll() {
        WombatBowls x = new WombatBowls();
        Check.moves(x, "w1;j50;b-1,54,0;b7,52,-3");
        x.keep(1);
        WombatBowls same = new WombatBowls();
        Check.moves(same, "w1;j50;b-1,54,0;b7,52,-3");
        same.keep(1);
        Check.moves(x, "b7,70,-3;b0,30,0;w4");
        x.turnTwice();
        x.turnBack();
        x.begin(5);
        x.changeBowls(2);
        x.append('c');
        x.goBack(1);
        Check.due("savedStates()", x.savedStates(), 6);
        Check.due("clearBuffer(), the buffer stays", x.clearBuffer(), 1);
        Check.due("needed()", x.needed(), 21);
        Check.due("bowlsOfSide()", x.bowlsOfSide(), 4);
        Check.undoAll(x);
        Check.undoAll(same);
        x.goBack(1);
        same.goBack(1);
        Check.due("digest(), the slots stay at undo", x.digest(), same.digest());
    }

    private static void sixStates() {
        WombatBowls x = new WombatBowls();
        Check.thrown("undo(), none", x, Check.STATE, () -> x.undo());
        for (int wind = 1; wind <= 5; wind++) {
            x.changeWind(wind);
            Check.due("savedStates()", x.savedStates(), wind);
        }
        x.changeWind(4);
        Check.due("savedStates(), six", x.savedStates(), 6);
        x.changeWind(3);
        x.changeWind(2);
        Check.due("savedStates(), six at the most", x.savedStates(), 6);
        int[] due = {3, 4, 5, 4, 3, 2};
        for (int wind : due) {
            x.undo();
            Check.due("wind() once undone", x.wind(), wind);
        }
        Check.due("savedStates(), all are dropped", x.savedStates(), 0);
        Check.thrown("undo(), the older ones were dropped", x, Check.STATE, () -> x.undo());
        x.changeWind(-1);
        x.changeWind(-2);
        x.undo();
        x.changeWind(-3);
        x.undo();
        Check.due("wind()", x.wind(), -1);
        x.undo();
        Check.due("wind()", x.wind(), 2);
    }

    private static void undone(String name, String moves, Consumer<WombatBowls> call) {
        WombatBowls x = new WombatBowls();
        x.changeBowls(1);
        x.keep(0);
        Check.append(x, moves);
        x.playAll();
        long before = x.digest();
        call.accept(x);
        Check.due("savedStates() behind " + name, x.savedStates(), 3);
        x.undo();
        Check.due("savedStates() behind undo of " + name, x.savedStates(), 2);
        Check.due("digest() behind undo of " + name, x.digest(), before);
    }

    /** Each undoable call saves one state, also if it changes nothing, and undo brings all back. */
    private static void undoOfEach() {
        String played = "j30;b0,30,0;b1,20,0";
        undone("roll", "w1", x -> x.roll(30));
        undone("play", "j50", x -> x.play(0, 50, 0));
        undone("play that strikes", "j30;b0,30,0", x -> x.play(0, 70, 0));
        undone("count", played, x -> x.count());
        undone("begin", played, x -> x.begin(3));
        undone("begin with the same", "w1", x -> x.begin(21));
        undone("changeBowls", "w1", x -> x.changeBowls(3));
        undone("changeBowls to the same", "w1", x -> x.changeBowls(1));
        undone("changeWind", played, x -> x.changeWind(-5));
        undone("changeWind to the same", "w1", x -> x.changeWind(1));
        undone("turnBack", played, x -> x.turnBack());
        undone("turnTwice", played, x -> x.turnTwice());
        undone("goBack", played, x -> x.goBack(0));
        undone("playAll", "w1", x -> {
            Check.append(x, "w2;" + played + ";c");
            x.playAll();
        });
    }

    private static void notUndoable() {
        WombatBowls x = new WombatBowls();
        x.append('c');
        x.firstError();
        x.keep(0);
        x.clearBuffer();
        x.pointsByOrder();
        x.spread();
        Check.due("savedStates()", x.savedStates(), 0);
        x.roll(30);
        x.wouldCount(0, 30, 0);
        x.wouldStrike(0, 30, 0);
        x.bestWeight(0, 0);
        x.bestPlay();
        x.digest();
        Check.due("savedStates(), roll alone", x.savedStates(), 1);
        Check.due("bowls(), nothing is played", x.bowls(), 0);
    }
}
