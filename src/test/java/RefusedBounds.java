import java.util.HashMap;
import java.util.Map;
import java.util.function.Supplier;

/**
 * 'Exceptions' and 'Snapshots, undo' in 'Terms', for each call in each situation: what is refused throws what the
 * document names first and changes nothing; what is allowed and undoable saves one state, and undo takes it back.
 */
final class RefusedBounds {
    /** r roll, p play, c count, b changeBowls, a append, t playAll, 0 and 1 goBack to that slot, u undo. */
    private static final Map<String, String> ALLOWED = new HashMap<>();

    private static String name;
    private static String allowed;
    private static Supplier<WombatBowls> make;

    private RefusedBounds() {
    }

    static void run() {
        ALLOWED.put("a new object", "rba");
        ALLOWED.put("a jack without bowls", "pa1u");
        ALLOWED.put("an end that goes on", "pa1u");
        ALLOWED.put("one bowl to come", "pa1u");
        ALLOWED.put("all bowls are played", "cat1u");
        ALLOWED.put("a burnt end", "cat1u");
        ALLOWED.put("burnt by the last bowl", "cat1u");
        ALLOWED.put("a jack in the ditch, touched", "pa1u");
        ALLOWED.put("a jack put back", "pa1u");
        ALLOWED.put("a jack put back behind the last bowl", "cat1u");
        ALLOWED.put("a match that is over", "ba01u");
        ALLOWED.put("a full buffer", "rbt");
        for (Map.Entry<String, Supplier<WombatBowls>> situation : Situations.all().entrySet()) {
            name = situation.getKey();
            make = situation.getValue();
            allowed = ALLOWED.get(name);
            wrongNumbers();
            byState();
            reading();
            Check.sentence(0, "Each method that is marked \"undoable\" and does not throw an exception saves the state from"
                + " before it, also if it changes nothing: all but the buffer, the slots and the saved states.");
            alwaysUndoable();
            notUndoable();
        }
    }

    private static boolean may(char kind) {
        return allowed.indexOf(kind) >= 0;
    }

    private static void argument(String call, Check.Call made) {
        Check.refused(call + " of " + name, make, Check.ARGUMENT, made);
    }

    /** Wrong numbers are named first, whatever else would be refused. */
    private static void wrongNumbers() {
        Check.sentence(0, "If several exceptions apply, the one that is named first in the throws clause is thrown.");
        for (int one : new int[] {Integer.MIN_VALUE, -1, 19, 51, Integer.MAX_VALUE}) {
            argument("roll " + one, x -> x.roll(one));
        }
        int[][] plays = {{10, 30, 0}, {-10, 30, 0}, {0, 14, 0}, {0, 71, 0}, {0, 30, 4}, {0, 30, -4}};
        for (int[] one : plays) {
            argument("play", x -> x.play(one[0], one[1], one[2]));
            argument("wouldCount", x -> x.wouldCount(one[0], one[1], one[2]));
            argument("wouldStrike", x -> x.wouldStrike(one[0], one[1], one[2]));
            argument("curveBySteps", x -> x.curveBySteps(one[0], one[1], one[2], 0));
            argument("curveByFormula", x -> x.curveByFormula(one[0], one[1], one[2], 0));
            if (one[1] == 30) {
                argument("bestWeight", x -> x.bestWeight(one[0], one[2]));
            }
        }
        argument("begin 0", x -> x.begin(0));
        argument("begin 51", x -> x.begin(51));
        argument("changeBowls 0", x -> x.changeBowls(0));
        argument("changeBowls 5", x -> x.changeBowls(5));
        argument("changeWind -6", x -> x.changeWind(-6));
        argument("changeWind 6", x -> x.changeWind(6));
        argument("append 32", x -> x.append(32));
        argument("append 127", x -> x.append(127));
        for (int slot : new int[] {-1, 2}) {
            argument("keep " + slot, x -> nothing(() -> x.keep(slot)));
            argument("goBack " + slot, x -> nothing(() -> x.goBack(slot)));
        }
        argument("endsWith 9", x -> x.endsWith(9));
        argument("endsWith -9", x -> x.endsWith(-9));
    }

    private static Object nothing(Runnable call) {
        call.run();
        return "nothing thrown";
    }

    /** What depends on the situation: allowed and taken back by undo, or refused. */
    private static void state(char kind, String call, boolean clearsBuffer, Check.Call made) {
        if (may(kind)) {
            Check.undoable(call + " of " + name, make, clearsBuffer, made);
        } else {
            Check.refused(call + " of " + name, make, Check.STATE, made);
        }
    }

    private static void byState() {
        Check.sentence(0, "A call that throws an exception changes nothing (the buffer stays as it is, too).");
        state('r', "roll 20", false, x -> x.roll(20));
        state('r', "roll 50", false, x -> x.roll(50));
        state('p', "play 0 70 0", false, x -> x.play(0, 70, 0));
        state('p', "play -9 15 3", false, x -> x.play(-9, 15, 3));
        state('c', "count", false, x -> x.count());
        state('b', "changeBowls 1", false, x -> x.changeBowls(1));
        state('b', "changeBowls 4", false, x -> x.changeBowls(4));
        state('0', "goBack 0", false, x -> nothing(() -> x.goBack(0)));
        state('1', "goBack 1", false, x -> nothing(() -> x.goBack(1)));
        if (name.equals("a new object")) {
            argument("playAll, an empty buffer", x -> x.playAll());
        } else {
            state('t', "playAll", true, x -> x.playAll());
        }
        if (!may('a')) {
            Check.refused("append of " + name, make, Check.STATE, x -> x.append(99));
        }
        if (!may('u')) {
            Check.refused("undo of " + name, make, Check.STATE, x -> nothing(x::undo));
        }
    }

    private static void reading() {
        Check.Call[] calls = {x -> x.turn(), x -> x.wouldCount(-9, 15, -3), x -> x.wouldStrike(9, 70, 3),
            x -> x.bestWeight(9, -3), x -> x.bestPlay()};
        for (int call = 0; call < calls.length; call++) {
            if (may('p')) {
                Check.allowed("call " + call + " of " + name, make, calls[call]);
            } else {
                Check.refused("call " + call + " of " + name, make, Check.STATE, calls[call]);
            }
        }
        boolean jack = may('p') || may('c');
        Check.Call[] ofJack = {x -> x.jackRow(), x -> x.jackColumn()};
        for (Check.Call call : ofJack) {
            Object got = Check.answer(call, make.get());
            Check.due("the jack of " + name, got.equals(Check.STATE), !jack);
        }
        Check.due("isJackThere() of " + name, make.get().isJackThere(), jack);
    }

    private static void alwaysUndoable() {
        Check.undoable("begin 1 of " + name, make, false, x -> x.begin(1));
        Check.undoable("begin 30 of " + name, make, false, x -> x.begin(30));
        Check.undoable("changeWind -5 of " + name, make, false, x -> x.changeWind(-5));
        Check.undoable("changeWind to the same of " + name, make, false, x -> x.changeWind(x.wind()));
        Check.undoable("turnBack of " + name, make, false, x -> x.turnBack());
        Check.undoable("turnTwice of " + name, make, false, x -> x.turnTwice());
    }

    /** These save no state: what is behind them is the same as without them, but for what they are for. */
    private static void notUndoable() {
        WombatBowls asked = make.get();
        WombatBowls other = make.get();
        int length = asked.clearBuffer();
        Check.due("clearBuffer of " + name, length > 0, !name.equals("a new object"));
        other.clearBuffer();
        asked.append(126);
        other.append(126);
        Check.due("clearBuffer() of one character", asked.clearBuffer(), 1);
        other.clearBuffer();
        asked.append('c');
        other.append('c');
        asked.keep(0);
        asked.goBack(0);
        asked.undo();
        other.keep(0);
        // what drops the oldest state of six
        other.changeWind(0);
        other.undo();
        Check.same("keep, goBack and undo of " + name, asked, other);
    }
}
