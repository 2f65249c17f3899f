import java.util.List;
import java.util.Map;
import java.util.Set;
import java.util.TreeMap;
import java.util.TreeSet;
import java.util.concurrent.Callable;
import java.util.function.Supplier;

/** What the tests have in common: it prints each answer that is not due, and counts them. */
final class Check {
    static final Class<? extends RuntimeException> ARGUMENT = IllegalArgumentException.class;
    static final Class<? extends RuntimeException> STATE = IllegalStateException.class;
    static final Class<? extends RuntimeException> INDEX = IndexOutOfBoundsException.class;

    private static int wrong = 0;
    private static String place = "";
    private static final Map<Integer, Set<String>> SAID = new TreeMap<>();

    private Check() {
    }

    /** A call with one number, of which a range is allowed. */
    interface Move {
        Object on(WombatBowls bowls, int value) throws Exception;
    }

    /** A call that may be refused. */
    interface Call {
        Object on(WombatBowls bowls) throws Exception;
    }

    /**
     * Names the sentence of the document that the checks from here on test; the promise 0 stands for 'Terms'.
     * Sentences holds what was named against the document.
     */
    static void sentence(int promise, String words) {
        place = "promise " + promise + ", " + words + ": ";
        SAID.computeIfAbsent(promise, key -> new TreeSet<>()).add(words);
    }

    /** What is checked from here on is no sentence of the document. */
    static void part(String name) {
        place = name + ": ";
    }

    /** The sentences that were named for a promise. */
    static Set<String> said(int promise) {
        return SAID.getOrDefault(promise, Set.of());
    }

    static void due(String call, Object got, Object want) {
        if (!want.equals(got)) {
            wrong++;
            System.out.println(place + call + " answered " + got + ", due is " + want);
        }
    }

    /** The call must throw exactly this class, by a throw of its own, and change nothing. */
    static void thrown(String name, WombatBowls bowls, Class<? extends RuntimeException> want, Callable<?> call) {
        long before = bowls.digest();
        Object got;
        try {
            got = call.call();
        } catch (Exception e) {
            got = e.getClass();
        }
        due(name, got, want);
        due(name + ", then digest()", bowls.digest(), before);
    }

    static void thrown(String name, WombatBowls bowls, Class<? extends RuntimeException> want, Runnable call) {
        thrown(name, bowls, want, () -> {
            call.run();
            return "nothing thrown";
        });
    }

    static Object answer(Call call, WombatBowls bowls) {
        try {
            return call.on(bowls);
        } catch (Exception e) {
            return e.getClass();
        }
    }

    /**
     * The call must throw exactly this class, and every answer behind it must be as without the call: of two objects
     * that are made alike, one makes the call, and both are asked for all, and for what lies behind undo and goBack.
     */
    static void refused(String name, Supplier<WombatBowls> make, Class<? extends RuntimeException> want, Call call) {
        WombatBowls asked = make.get();
        WombatBowls other = make.get();
        due(name, answer(call, asked), want);
        same(name, asked, other);
    }

    static void allowed(String name, Supplier<WombatBowls> make, Call call) {
        Object got = answer(call, make.get());
        due(name + " throws", got instanceof Class, false);
    }

    /** The call must not throw and must save one state, and undo must bring all answers back. */
    static void undoable(String name, Supplier<WombatBowls> make, boolean clearsBuffer, Call call) {
        WombatBowls asked = make.get();
        WombatBowls other = make.get();
        int before = asked.savedStates();
        due(name + " throws", answer(call, asked) instanceof Class, false);
        due(name + ", then savedStates()", asked.savedStates(), Math.min(before + 1, 6));
        asked.undo();
        if (before == 6) {
            // the oldest state is dropped by any call
            other.changeWind(0);
            other.undo();
        }
        if (clearsBuffer) {
            due(name + ", then clearBuffer()", asked.clearBuffer(), 0);
            other.clearBuffer();
        }
        same(name + ", undone", asked, other);
    }

    /** The call must not throw, and it saves no state. */
    static void undoableNot(String name, Supplier<WombatBowls> make, Call call) {
        WombatBowls asked = make.get();
        int before = asked.savedStates();
        due(name + " throws", answer(call, asked) instanceof Class, false);
        due(name + ", then savedStates()", asked.savedStates(), before);
    }

    /** All answers of both must be alike; both are used up by it. */
    static void same(String name, WombatBowls asked, WombatBowls other) {
        alike(name + ", then ", Answers.all(asked), Answers.all(other));
        alike(name + ", then ", Answers.behind(asked), Answers.behind(other));
    }

    private static void alike(String name, List<String> got, List<String> want) {
        due(name + "how many answers", got.size(), want.size());
        for (int index = 0; index < got.size() && index < want.size(); index++) {
            due(name + "the answer " + index, got.get(index), want.get(index));
        }
    }

    /** Both sides of a range: all from the least to the greatest value are allowed, and what lies beyond is refused. */
    static void range(String name, Supplier<WombatBowls> make, int least, int greatest,
        Class<? extends RuntimeException> want, Move move) {
        for (int value = least; value <= greatest; value++) {
            int each = value;
            allowed(name + " " + value, make, bowls -> move.on(bowls, each));
        }
        for (int value : new int[] {least - 1, greatest + 1, Integer.MIN_VALUE, Integer.MAX_VALUE}) {
            refused(name + " " + value, make, want, bowls -> move.on(bowls, value));
        }
    }

    /** Likewise for an index. */
    static void range(String name, Supplier<WombatBowls> make, int least, int greatest, Move move) {
        range(name, make, least, greatest, INDEX, move);
    }

    /** Undo as often as it goes, six times at the most. */
    static void undoAll(WombatBowls bowls) {
        for (int call = 0; call < 6 && bowls.savedStates() > 0; call++) {
            bowls.undo();
        }
        due("savedStates(), all are undone", bowls.savedStates(), 0);
    }

    static void append(WombatBowls bowls, String text) {
        for (char sign : text.toCharArray()) {
            bowls.append(sign);
        }
    }

    /** Makes moves that are told as a text of any length, by the calls themselves. */
    static void moves(WombatBowls bowls, String text) {
        for (String part : text.split(";")) {
            String[] numbers = part.substring(1).split(",");
            if (part.charAt(0) == 'j') {
                bowls.roll(Integer.parseInt(numbers[0]));
            } else if (part.charAt(0) == 'b') {
                bowls.play(Integer.parseInt(numbers[0]), Integer.parseInt(numbers[1]), Integer.parseInt(numbers[2]));
            } else if (part.charAt(0) == 'c') {
                bowls.count();
            } else {
                bowls.changeWind(Integer.parseInt(numbers[0]));
            }
        }
    }

    /** A new object that has made these moves. */
    static WombatBowls after(String moves) {
        WombatBowls bowls = new WombatBowls();
        moves(bowls, moves);
        return bowls;
    }

    static void end(String test) {
        System.out.println(test + ": " + (wrong == 0 ? "all answers are as due" : wrong + " answers are not as due"));
        if (wrong != 0) {
            System.exit(1);
        }
    }
}
