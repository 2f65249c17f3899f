import java.util.LinkedHashMap;
import java.util.Map;
import java.util.function.Supplier;

/** The boundary cases of 'Snapshots, undo' in 'Terms' and of the promises 14 to 17. */
final class UndoBounds {
    private UndoBounds() {
    }

    static void run() {
        slots();
        emptySlots();
        inPlaceOf();
        snapshotOfEach();
        snapshotWithout();
        oldestFirst();
        sevenOfEach();
        undoNone();
        undoOfBoundaries();
        savedStates();
    }

    private static Object nothing(Runnable call) {
        call.run();
        return "nothing thrown";
    }

    private static void slots() {
        Check.sentence(14, "slot: 0 or 1");
        Check.sentence(14, "Throws IllegalArgumentException if slot is out of range");
        Check.range("keep", Situations::open, 0, 1, Check.ARGUMENT, (x, slot) -> nothing(() -> x.keep(slot)));
        Check.range("keep", Situations::fresh, 0, 1, Check.ARGUMENT, (x, slot) -> nothing(() -> x.keep(slot)));
        Check.sentence(15, "slot: 0 or 1");
        Check.sentence(15, "Throws IllegalArgumentException if slot is out of range");
        Check.range("goBack", Situations::over, 0, 1, Check.ARGUMENT, (x, slot) -> nothing(() -> x.goBack(slot)));
        Check.sentence(0, "There are two slots; a snapshot is all but the buffer, the slots and the saved states.");
        WombatBowls x = new WombatBowls();
        x.changeWind(1);
        x.keep(0);
        x.changeWind(2);
        x.keep(1);
        Check.due("savedStates(), keep is not undoable", x.savedStates(), 2);
        x.changeWind(3);
        x.goBack(0);
        Check.due("wind() of the slot 0", x.wind(), 1);
        x.goBack(1);
        Check.due("wind() of the slot 1", x.wind(), 2);
    }

    private static void emptySlots() {
        Check.sentence(15, "Throws IllegalStateException if there is no snapshot in it");
        Check.refused("goBack(0), a new object", Situations::fresh, Check.STATE, x -> nothing(() -> x.goBack(0)));
        Check.refused("goBack(1), a new object", Situations::fresh, Check.STATE, x -> nothing(() -> x.goBack(1)));
        // the slot 1 is taken, the slot 0 is not; then the other way round
        Check.refused("goBack(0)", Situations::open, Check.STATE, x -> nothing(() -> x.goBack(0)));
        Check.undoable("goBack(1)", Situations::open, false, x -> nothing(() -> x.goBack(1)));
        Supplier<WombatBowls> zero = () -> {
            WombatBowls x = Check.after("w1");
            x.keep(0);
            x.changeWind(2);
            return x;
        };
        Check.undoable("goBack(0)", zero, false, x -> nothing(() -> x.goBack(0)));
        Check.refused("goBack(1)", zero, Check.STATE, x -> nothing(() -> x.goBack(1)));
        Check.refused("goBack(2), named first", zero, Check.ARGUMENT, x -> nothing(() -> x.goBack(2)));
        Check.refused("goBack(-1), named first", Situations::fresh, Check.ARGUMENT, x -> nothing(() -> x.goBack(-1)));
    }

    private static void inPlaceOf() {
        Check.sentence(14, "Takes a snapshot, in place of the one in the slot.");
        WombatBowls x = new WombatBowls();
        x.keep(0);
        x.changeWind(1);
        x.keep(0);
        x.changeWind(2);
        x.goBack(0);
        Check.due("wind(), the later one", x.wind(), 1);
        Check.sentence(15, "Goes back to a snapshot, which stays. Undoable.");
        for (int times = 0; times < 9; times++) {
            x.changeWind(3);
            x.roll(20);
            x.play(0, 15, 0);
            x.goBack(0);
            Check.due("wind(), it stays", x.wind(), 1);
            Check.due("isJackThere(), it stays", x.isJackThere(), false);
            Check.due("bowls(), it stays", x.bowls(), 0);
        }
        x.undo();
        Check.due("wind(), undone", x.wind(), 3);
        Check.due("bowls(), undone", x.bowls(), 1);
        x.goBack(0);
        Check.due("wind(), behind undo", x.wind(), 1);
        // a snapshot of what a snapshot brought back
        x.keep(1);
        x.changeWind(4);
        x.keep(0);
        x.goBack(1);
        Check.due("wind() of the slot 1", x.wind(), 1);
        x.goBack(0);
        Check.due("wind() of the slot 0", x.wind(), 4);
    }

    /** For each part of a match: it is changed behind keep, and goBack and undo bring it back. */
    private static void snapshotOfEach() {
        Check.sentence(0, "a snapshot is all but the buffer, the slots and the saved states");
        Map<String, Check.Call> changes = new LinkedHashMap<>();
        changes.put("a bowl that is played", x -> x.play(1, 40, -1));
        changes.put("a bowl that strikes", x -> x.play(0, 70, 0));
        changes.put("the end counted", x -> {
            Check.moves(x, "b0,15,0;b0,16,0;b0,17,0;b0,18,0;b0,19,0");
            return x.count();
        });
        changes.put("another match", x -> x.begin(3));
        changes.put("another jack", x -> {
            x.begin(30);
            x.roll(44);
            return x.play(-1, 30, 1);
        });
        changes.put("other bowls of a side", x -> {
            x.begin(30);
            return x.changeBowls(2);
        });
        changes.put("the wind", x -> x.changeWind(4));
        changes.put("the jack put back", x -> x.turnBack());
        changes.put("touchers twice", x -> x.turnTwice());
        changes.put("moves as a text", x -> {
            x.clearBuffer();
            Check.append(x, "w2;b-1,20,0");
            return x.playAll();
        });
        changes.put("13 ends and a burnt one", x -> {
            x.begin(50);
            x.changeBowls(1);
            for (int end = 0; end < 13; end++) {
                Check.moves(x, "j30;b0,30,0;b9,70,3;c");
            }
            x.changeBowls(4);
            Check.moves(x, Situations.BURNT);
            x.turnBack();
            return x.play(0, 20, 0);
        });
        for (Map.Entry<String, Check.Call> one : changes.entrySet()) {
            for (int slot = 0; slot <= 1; slot++) {
                WombatBowls x = Situations.open();
                WombatBowls other = Situations.open();
                x.keep(slot);
                other.keep(slot);
                Check.due(one.getKey() + " throws", Check.answer(one.getValue(), x) instanceof Class, false);
                x.goBack(slot);
                Check.undoAll(x);
                Check.undoAll(other);
                x.goBack(slot);
                other.goBack(slot);
                x.clearBuffer();
                other.clearBuffer();
                // what undo came to behind all of this need not be the same, so that the digest is compared, not what is behind
                Check.due("digest() behind goBack(" + slot + "), " + one.getKey(), x.digest(), other.digest());
                Check.due("answers behind goBack(" + slot + "), " + one.getKey(), Answers.all(x), Answers.all(other));
            }
        }
    }

    private static void snapshotWithout() {
        Check.sentence(0, "a snapshot is all but the buffer, the slots and the saved states");
        WombatBowls x = new WombatBowls();
        Check.append(x, "w1");
        x.keep(0);
        x.changeWind(5);
        x.changeWind(4);
        x.keep(1);
        x.append(';');
        x.goBack(0);
        Check.due("firstError(), the buffer stays as it is", x.firstError(), 3);
        Check.due("savedStates(), one more than before", x.savedStates(), 3);
        x.goBack(1);
        Check.due("wind(), the other slot stays as it is", x.wind(), 4);
        x.clearBuffer();
        x.goBack(0);
        Check.due("clearBuffer(), the buffer stays as it is", x.clearBuffer(), 0);
        Check.undoAll(x);
        Check.due("wind(), all is undone", x.wind(), 0);
        x.goBack(1);
        Check.due("wind(), undo leaves the slots", x.wind(), 4);
        x.append('c');
        x.undo();
        Check.due("clearBuffer(), undo leaves the buffer", x.clearBuffer(), 1);
        // a slot that was empty in the state that is undone to
        WombatBowls y = new WombatBowls();
        y.changeWind(1);
        y.keep(0);
        y.undo();
        Check.due("goBack(0), taken behind the saved state", Check.answer(z -> nothing(() -> z.goBack(0)), y),
            "nothing thrown");
        Check.due("wind()", y.wind(), 1);
    }

    /** Any count of calls, and then undo as often as it goes. */
    private static void oldestFirst() {
        Check.sentence(0, "At most 6 states are saved; the oldest one is dropped first.");
        Check.sentence(16, "Restores the latest saved state, and drops it.");
        for (int calls = 0; calls <= 30; calls++) {
            WombatBowls x = new WombatBowls();
            for (int call = 1; call <= calls; call++) {
                Check.due("begin", x.begin(call), call == 1 ? 21 : call - 1);
                Check.due("savedStates()", x.savedStates(), Math.min(call, 6));
            }
            int saved = Math.min(calls, 6);
            for (int left = saved - 1; left >= 0; left--) {
                x.undo();
                int call = calls - (saved - left);
                Check.due("needed() behind " + calls + " calls, " + left + " left", x.needed(), call == 0 ? 21 : call);
                Check.due("savedStates()", x.savedStates(), left);
            }
            Check.sentence(16, "Throws IllegalStateException if there is none");
            Check.thrown("undo() behind " + calls, x, Check.STATE, () -> x.undo());
            Check.sentence(0, "At most 6 states are saved; the oldest one is dropped first.");
        }
        // undo and saving by turns, all round the six
        for (int undone = 1; undone <= 6; undone++) {
            WombatBowls x = new WombatBowls();
            int needed = 0;
            for (int round = 0; round < 5; round++) {
                for (int call = 0; call < 7; call++) {
                    needed++;
                    x.begin(needed);
                }
                int before = needed;
                for (int call = 1; call <= undone; call++) {
                    x.undo();
                    Check.due("needed(), " + call + " undone", x.needed(), before - call);
                }
                Check.due("savedStates()", x.savedStates(), 6 - undone);
                needed = before - undone;
            }
        }
    }

    /** Each undoable call as the sixth, the seventh and the eighth one. */
    private static void sevenOfEach() {
        Check.sentence(0, "Each method that is marked \"undoable\" and does not throw an exception saves the state from before"
            + " it, also if it changes nothing: all but the buffer, the slots and the saved states.");
        Map<String, Check.Call> calls = new LinkedHashMap<>();
        calls.put("roll", x -> x.roll(20));
        calls.put("play", x -> x.play(0, 15, 0));
        calls.put("count", x -> x.count());
        calls.put("begin", x -> x.begin(5));
        calls.put("changeBowls", x -> x.changeBowls(1));
        calls.put("changeWind", x -> x.changeWind(0));
        calls.put("turnBack", x -> x.turnBack());
        calls.put("turnTwice", x -> x.turnTwice());
        calls.put("goBack", x -> nothing(() -> x.goBack(1)));
        calls.put("playAll", x -> x.playAll());
        for (Map.Entry<String, Check.Call> one : calls.entrySet()) {
            for (int saved = 4; saved <= 8; saved++) {
                WombatBowls x = new WombatBowls();
                x.keep(1);
                Check.append(x, "w0");
                x.changeBowls(1);
                String moves = one.getKey().equals("play") ? "j20" : one.getKey().equals("count")
                    ? "j20;b0,15,0;b1,15,0" : "w0";
                Check.moves(x, moves);
                for (int call = x.savedStates(); call < saved; call++) {
                    x.changeWind(call % 5 + 1);
                }
                String name = one.getKey() + " behind " + saved;
                Check.due("savedStates() ahead of " + name, x.savedStates(), Math.min(saved, 6));
                long before = withoutStates(x);
                Check.due(name + " throws", Check.answer(one.getValue(), x) instanceof Class, false);
                Check.due("savedStates() of " + name, x.savedStates(), Math.min(saved + 1, 6));
                x.undo();
                Check.due("savedStates(), undone, of " + name, x.savedStates(), Math.min(saved, 5));
                x.clearBuffer();
                Check.due("all answers, undone, of " + name, withoutStates(x), before);
            }
        }
    }

    /** All answers in one number, but for the saved states, the buffer and the digest that has them. */
    private static long withoutStates(WombatBowls x) {
        long hash = 7;
        for (String answer : Answers.all(x)) {
            if (!answer.startsWith("savedStates") && !answer.startsWith("digest") && !answer.startsWith("firstError")) {
                hash = 31 * hash + answer.hashCode();
            }
        }
        return hash;
    }

    private static void undoNone() {
        Check.sentence(16, "Throws IllegalStateException if there is none");
        Check.refused("undo(), a new object", Situations::fresh, Check.STATE, x -> nothing(x::undo));
        Check.refused("undo(), a full buffer", Situations::full, Check.STATE, x -> nothing(x::undo));
        Supplier<WombatBowls> used = () -> {
            WombatBowls x = Check.after("j20");
            x.keep(0);
            x.undo();
            return x;
        };
        Check.refused("undo(), the only one is used up", used, Check.STATE, x -> nothing(x::undo));
        Supplier<WombatBowls> kept = () -> {
            WombatBowls x = new WombatBowls();
            x.keep(0);
            x.keep(1);
            x.append('c');
            x.clearBuffer();
            return x;
        };
        Check.refused("undo(), calls that are not undoable", kept, Check.STATE, x -> nothing(x::undo));
        Supplier<WombatBowls> refused = () -> {
            WombatBowls x = new WombatBowls();
            Check.append(x, "c");
            Check.answer(y -> y.roll(19), x);
            Check.answer(y -> y.count(), x);
            Check.answer(y -> y.play(0, 30, 0), x);
            Check.answer(y -> y.playAll(), x);
            Check.answer(y -> y.begin(0), x);
            Check.answer(y -> nothing(() -> y.goBack(0)), x);
            return x;
        };
        Check.refused("undo(), refused calls save nothing", refused, Check.STATE, x -> nothing(x::undo));
        Check.allowed("undo(), one", () -> Check.after("w0"), x -> nothing(x::undo));
    }

    private static void undoOfBoundaries() {
        Check.sentence(16, "Restores the latest saved state, and drops it.");
        // a match that is over goes on, a burnt end is not burnt, a bowl that is dead lies again
        WombatBowls over = Situations.over();
        over.undo();
        Check.due("isOver()", over.isOver(), false);
        Check.due("isJackThere()", over.isJackThere(), true);
        Check.due("bowls()", over.bowls(), 2);
        WombatBowls burnt = Situations.burnt();
        burnt.undo();
        Check.due("isBurnt()", burnt.isBurnt(), false);
        Check.due("jackRow()", burnt.jackRow(), 59);
        WombatBowls dead = Check.after("j30;b2,52,0;b2,68,0");
        dead.undo();
        Check.due("rowOf(0)", dead.rowOf(0), 52);
        WombatBowls touched = Check.after("j30;b0,30,0");
        touched.undo();
        Check.due("touchers()", touched.touchers(), 0);
        touched.play(9, 70, 3);
        Check.due("isToucher(0), another bowl", touched.isToucher(0), false);
        // undo is not undoable itself
        WombatBowls x = Check.after("w1;w2;w3");
        x.undo();
        x.undo();
        Check.due("wind()", x.wind(), 1);
        Check.due("savedStates()", x.savedStates(), 1);
    }

    private static void savedStates() {
        Check.sentence(17, "Returns 0 to 6.");
        WombatBowls x = new WombatBowls();
        Check.due("savedStates(), none", x.savedStates(), 0);
        for (int call = 1; call <= 9; call++) {
            x.turnTwice();
            Check.due("savedStates()", x.savedStates(), Math.min(call, 6));
        }
        x.undo();
        Check.due("savedStates()", x.savedStates(), 5);
        x.turnTwice();
        Check.due("savedStates()", x.savedStates(), 6);
        for (int left = 5; left >= 0; left--) {
            x.undo();
            Check.due("savedStates()", x.savedStates(), left);
        }
    }
}
