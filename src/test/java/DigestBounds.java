import java.util.Arrays;
import java.util.Map;
import java.util.function.Supplier;

/** The boundary cases of the promise 63: each value of the list makes the hash another one, and only these do. */
final class DigestBounds {
    private DigestBounds() {
    }

    static void run() {
        newObject();
        buffer();
        slotsAndStates();
        rules();
        situations();
        means();
    }

    /** The list of a new object, put together by hand, up to the slots. */
    private static long aheadOfBuffer() {
        // no jack, no bowls, 4 each, no turn; no leader, no points twice, no bowls twice, no gap, no spread
        long hash = add(4423, 0, 0, 0, 0, 4, 0, 0, 0, 0, 0, 0, 0, 0);
        // 1050 + 1200 - 820 is the column 14: 40 * 21 + 14
        hash = add(hash, 854, 854);
        // no points, 21 needed, not over, no ends, none burnt, none kept; 17 counts of points
        hash = add(hash, 0, 0, 21, 0, 0, 0, 0);
        hash = add(hash, new long[17]);
        // streak, putBack, played, touchers, first, wind, both rules, savedStates, the bits of 0.0, both slots
        return add(hash, new long[12]);
    }

    private static void newObject() {
        Check.sentence(63, "The hash starts at 4423. For each value v of the following list, in order, the hash becomes"
            + " 31 * hash + v, in long arithmetic with overflow.");
        Check.sentence(63, "Returns the hash.");
        Check.due("digest()", new WombatBowls().digest(), add(aheadOfBuffer(), 0));
    }

    private static long add(long start, long... values) {
        long hash = start;
        for (long value : values) {
            hash = 31 * hash + value;
        }
        return hash;
    }

    private static void buffer() {
        Check.sentence(63, "the length of the buffer and each of its character codes");
        WombatBowls x = new WombatBowls();
        long ahead = aheadOfBuffer();
        long[] values = new long[61];
        for (int length = 1; length <= 60; length++) {
            x.append(33 + length);
            values[0] = length;
            values[length] = 33 + length;
            Check.due("digest(), " + length + " characters", x.digest(), add(ahead, Arrays.copyOf(values, length + 1)));
        }
        x.clearBuffer();
        Check.due("digest(), cleared", x.digest(), 31 * ahead);
    }

    private static void slotsAndStates() {
        Check.sentence(63, "for each slot 1 if it has a snapshot, otherwise 0");
        long none = new WombatBowls().digest();
        WombatBowls x = new WombatBowls();
        x.keep(0);
        Check.due("the slot 0", x.digest() - none, 31L * 31);
        x.keep(1);
        Check.due("both slots", x.digest() - none, 31L * 31 + 31);
        x.keep(1);
        Check.due("the slot 1 again", x.digest() - none, 31L * 31 + 31);
        WombatBowls y = new WombatBowls();
        y.keep(1);
        Check.due("the slot 1", y.digest() - none, 31L);
        // savedStates, the bits of the mean, two slots and the length: 31 four times over
        WombatBowls saved = new WombatBowls();
        for (int calls = 1; calls <= 8; calls++) {
            saved.changeWind(0);
            Check.due("savedStates in digest(), " + calls, saved.digest() - none, 31L * 31 * 31 * 31 * Math.min(calls, 6));
        }
    }

    private static void rules() {
        Check.sentence(63, "1 if the jack is put back, otherwise 0, 1 if touchers count twice, otherwise 0, savedStates");
        long none = new WombatBowls().digest();
        long states = 31L * 31 * 31 * 31;
        WombatBowls back = new WombatBowls();
        back.turnBack();
        Check.due("the jack is put back", back.digest() - none, states * 31 * 31 + states);
        WombatBowls twice = new WombatBowls();
        twice.turnTwice();
        Check.due("touchers count twice", twice.digest() - none, states * 31 + states);
        back.turnBack();
        Check.due("the jack is not put back", back.digest() - none, 2 * states);
        twice.undo();
        Check.due("undone", twice.digest(), none);
    }

    /** All values of the list, at the places in a match where calls throw or do not. */
    private static void situations() {
        Check.sentence(63, "Computes a hash of the whole state.");
        for (Map.Entry<String, Supplier<WombatBowls>> one : Situations.all().entrySet()) {
            String name = one.getKey();
            boolean busy = !name.equals("a new object") && !name.equals("a full buffer");
            boolean over = name.equals("a match that is over");
            String buffer = busy ? Situations.TEXT : name.equals("a full buffer") ? Situations.FULL_TEXT : "";
            WombatBowls x = one.getValue().get();
            long due = new DigestByHand(x).of(name.startsWith("a jack put back"), over, over ? 1 : 0, busy ? 1 : 0, buffer);
            Check.due("digest() of " + name, x.digest(), due);
            Check.due("digest() of " + name + ", again", x.digest(), due);
        }
        WombatBowls windy = Situations.open();
        windy.changeWind(-5);
        Check.due("digest(), the wind bends both curves", windy.digest(),
            new DigestByHand(windy).of(false, false, 0, 1, Situations.TEXT));
    }

    /** Means below 1, of 1, between powers of two, of 2, 4 and 8. */
    private static void means() {
        Check.sentence(63, "the bits of meanPoints (as Double.doubleToLongBits)");
        for (int points = 1; points <= 4; points++) {
            WombatBowls x = new WombatBowls();
            x.turnTwice();
            x.begin(50);
            for (int end = 0; end < 6; end++) {
                x.changeBowls(points);
                x.roll(50);
                for (int bowl = 0; bowl < 2 * points; bowl++) {
                    if (bowl % 2 == 1) {
                        x.play(9, 70, 3);
                    } else if (end < 3) {
                        x.play(bowl / 2 == 0 ? 0 : 5 - bowl, 20 + bowl, 0);
                    } else {
                        x.play(-9, 70, -3);
                    }
                }
                x.count();
                Check.due("digest(), the mean is " + x.meanPoints(), x.digest(),
                    new DigestByHand(x).of(false, true, 0, 0, ""));
            }
        }
        WombatBowls eight = Check.after("j50;b0,54,0;b9,70,3;b-8,52,3;b9,70,3;b8,64,-3;b9,70,3;b-3,58,1;b9,70,3");
        eight.turnTwice();
        eight.count();
        Check.due("meanPoints()", eight.meanPoints(), 8.0);
        Check.due("digest(), the mean is 8", eight.digest(), new DigestByHand(eight).of(false, true, 0, 0, ""));
    }
}
