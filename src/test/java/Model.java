import java.util.ArrayDeque;
import java.util.ArrayList;
import java.util.Comparator;
import java.util.Deque;
import java.util.List;
import java.util.regex.Matcher;
import java.util.regex.Pattern;

/**
 * The document once more, written another way than the class: things as objects with a row and a column, strikes by
 * recursion, all ends of a match in one list, texts by a pattern. It is there for runs that are held against it.
 */
final class Model {
    private static final String AIM = "(?:-[1-9]|[0-9])";
    private static final String PART = "(?:j(?:[2-4][0-9]|50)|b" + AIM + ",(?:1[5-9]|[2-6][0-9]|70),(?:-[1-3]|[0-3])"
        + "|c|w(?:-[1-5]|[0-5]))";
    private static final Pattern MOVES = Pattern.compile(PART + "(?:;" + PART + ")*");

    static final class Thing {
        int row;
        int column;
        boolean dead;
        boolean toucher;
        int side;
        int aim;
        int weight;
        int bias;

        Thing copy() {
            Thing other = new Thing();
            other.row = row;
            other.column = column;
            other.dead = dead;
            other.toucher = toucher;
            other.side = side;
            other.aim = aim;
            other.weight = weight;
            other.bias = bias;
            return other;
        }

        int apart(Thing other) {
            return (row - other.row) * (row - other.row) + (column - other.column) * (column - other.column);
        }
    }

    static final class Match {
        Thing jack;
        List<Thing> bowls = new ArrayList<>();
        List<Integer> ends = new ArrayList<>();
        int burntEnds;
        int each = 4;
        int wind;
        int needed = 21;
        int first;
        int putBack;
        int played;
        int touchers;
        int strikes;
        boolean back;
        boolean twice;

        Match copy() {
            Match other = new Match();
            other.jack = jack == null ? null : jack.copy();
            for (Thing bowl : bowls) {
                other.bowls.add(bowl.copy());
            }
            other.ends.addAll(ends);
            other.burntEnds = burntEnds;
            other.each = each;
            other.wind = wind;
            other.needed = needed;
            other.first = first;
            other.putBack = putBack;
            other.played = played;
            other.touchers = touchers;
            other.back = back;
            other.twice = twice;
            return other;
        }

        boolean burnt() {
            return jack != null && jack.row == 60 && bowls.stream().noneMatch(b -> b.toucher);
        }

        boolean mayPlay() {
            return jack != null && !burnt() && bowls.size() < 2 * each;
        }

        int turn() {
            return bowls.size() % 2 == 0 ? first : 1 - first;
        }

        int pointsOf(int side) {
            int sum = 0;
            for (int points : ends) {
                sum += side == 0 ? Math.max(points, 0) : Math.max(-points, 0);
            }
            return sum;
        }

        boolean over() {
            return pointsOf(0) >= needed || pointsOf(1) >= needed;
        }

        Thing at(int row, int column) {
            for (Thing bowl : bowls) {
                if (!bowl.dead && bowl.row == row && bowl.column == column) {
                    return bowl;
                }
            }
            return jack != null && jack.row == row && jack.column == column ? jack : null;
        }

        void roll(int length) {
            jack = new Thing();
            jack.row = length;
            jack.column = 10;
        }

        static int column(int step, int drift, int bias) {
            return (int) Math.floor((1050 + 10 * step * drift + bias * (step * (step + 1) / 2)) / 100.0);
        }

        Thing play(int aim, int weight, int bias) {
            Thing bowl = new Thing();
            bowl.side = turn();
            bowl.aim = aim;
            bowl.weight = weight;
            bowl.bias = bias;
            bowl.column = 10;
            strikes = 0;
            played++;
            int step = 0;
            boolean going = true;
            while (going && step < weight) {
                step++;
                int column = column(step, aim + wind, bias);
                Thing other = at(step, column);
                if (column < 0 || column > 20 || step == 60) {
                    bowl.dead = true;
                    going = false;
                } else if (other != null) {
                    bowl.dead = step == 1;
                    bowl.toucher = other == jack;
                    strike(other, (weight - step) / 2);
                    going = false;
                } else {
                    bowl.row = step;
                    bowl.column = column;
                }
            }
            bowls.add(bowl);
            touchers += bowl.toucher ? 1 : 0;
            rescue();
            return bowl;
        }

        private void strike(Thing thing, int steps) {
            strikes++;
            for (int step = 1; step <= steps; step++) {
                if (thing.row == 59) {
                    thing.row = 60;
                    thing.dead = thing != jack && !thing.toucher;
                    return;
                }
                Thing other = at(thing.row + 1, thing.column);
                if (other != null) {
                    strike(other, (steps - step) / 2);
                    return;
                }
                thing.row++;
            }
        }

        void rescue() {
            if (back && burnt()) {
                jack.row = 40;
                jack.column = 10;
                while (bowlLies(jack.row)) {
                    jack.row++;
                }
                putBack++;
            }
        }

        private boolean bowlLies(int row) {
            return bowls.stream().anyMatch(b -> !b.dead && b.row == row && b.column == 10);
        }

        List<Thing> alive() {
            List<Thing> found = new ArrayList<>();
            for (Thing bowl : bowls) {
                if (!bowl.dead) {
                    found.add(bowl);
                }
            }
            return found;
        }

        List<Thing> byDistance() {
            List<Thing> found = alive();
            found.sort(Comparator.comparingInt(b -> b.apart(jack)));
            return found;
        }

        int nearestOf(int side) {
            return alive().stream().filter(b -> b.side == side).mapToInt(b -> b.apart(jack)).min().orElse(9999);
        }

        /** Above 0 for the side 0, below 0 for the side 1. */
        int points() {
            int sum = 0;
            if (jack != null && !burnt()) {
                for (Thing bowl : alive()) {
                    if (bowl.apart(jack) < nearestOf(1 - bowl.side)) {
                        sum += (bowl.side == 0 ? 1 : -1) * (bowl.toucher && twice ? 2 : 1);
                    }
                }
            }
            return sum;
        }

        int count() {
            int points = points();
            burntEnds += burnt() ? 1 : 0;
            ends.add(points);
            if (points != 0) {
                first = points > 0 ? 0 : 1;
            }
            jack = null;
            bowls.clear();
            return Math.abs(points);
        }

        List<Integer> kept() {
            return ends.subList(Math.max(0, ends.size() - 12), ends.size());
        }

        int streak() {
            List<Integer> kept = kept();
            int wins = 0;
            for (int i = kept.size() - 1; i >= 0 && kept.get(i) != 0; i--) {
                if (Integer.signum(kept.get(i)) != Integer.signum(kept.get(kept.size() - 1))) {
                    break;
                }
                wins++;
            }
            return wins;
        }
    }

    Match now = new Match();
    final Match[] slots = new Match[2];
    final Deque<Match> saved = new ArrayDeque<>();
    String buffer = "";

    private static void argument(boolean fits) {
        if (!fits) {
            throw new IllegalArgumentException();
        }
    }

    private static void state(boolean fits) {
        if (!fits) {
            throw new IllegalStateException();
        }
    }

    private static void index(boolean fits) {
        if (!fits) {
            throw new IndexOutOfBoundsException();
        }
    }

    private static boolean in(int value, int least, int most) {
        return least <= value && value <= most;
    }

    private void save() {
        saved.addLast(now.copy());
        if (saved.size() > 6) {
            saved.removeFirst();
        }
    }

    int roll(int length) {
        argument(in(length, 20, 50));
        state(!now.over() && now.jack == null);
        save();
        now.roll(length);
        return now.first;
    }

    int play(int aim, int weight, int bias) {
        argument(in(aim, -9, 9) && in(weight, 15, 70) && in(bias, -3, 3));
        state(now.mayPlay());
        save();
        return fate(now.play(aim, weight, bias));
    }

    int count() {
        state(now.jack != null && !now.mayPlay());
        save();
        return now.count();
    }

    int begin(int points) {
        argument(in(points, 1, 50));
        save();
        int before = now.needed;
        Match next = new Match();
        next.needed = points;
        next.wind = now.wind;
        next.each = now.each;
        next.back = now.back;
        next.twice = now.twice;
        now = next;
        return before;
    }

    int changeBowls(int bowls) {
        argument(in(bowls, 1, 4));
        state(now.jack == null);
        save();
        int before = now.each;
        now.each = bowls;
        return before;
    }

    int changeWind(int wind) {
        argument(in(wind, -5, 5));
        save();
        int before = now.wind;
        now.wind = wind;
        return before;
    }

    boolean turnBack() {
        save();
        now.back = !now.back;
        now.rescue();
        return now.back;
    }

    boolean turnTwice() {
        save();
        now.twice = !now.twice;
        return now.twice;
    }

    int append(int code) {
        argument(in(code, 33, 126));
        state(buffer.length() < 60);
        buffer += (char) code;
        return buffer.length();
    }

    int clearBuffer() {
        int before = buffer.length();
        buffer = "";
        return before;
    }

    int firstError() {
        for (int end = 1; end <= buffer.length(); end++) {
            Matcher matcher = MOVES.matcher(buffer.substring(0, end));
            if (!matcher.matches() && !matcher.hitEnd()) {
                return end - 1;
            }
        }
        return buffer.length();
    }

    int playAll() {
        argument(MOVES.matcher(buffer).matches());
        Match before = now.copy();
        int played = 0;
        for (String part : buffer.split(";")) {
            boolean allowed = true;
            String[] numbers = part.substring(1).split(",");
            switch (part.charAt(0)) {
                case 'j':
                    allowed = now.jack == null && !now.over();
                    if (allowed) {
                        now.roll(Integer.parseInt(numbers[0]));
                    }
                    break;
                case 'b':
                    allowed = now.mayPlay();
                    if (allowed) {
                        now.play(Integer.parseInt(numbers[0]), Integer.parseInt(numbers[1]),
                            Integer.parseInt(numbers[2]));
                        played++;
                    }
                    break;
                case 'c':
                    allowed = now.jack != null && !now.mayPlay();
                    if (allowed) {
                        now.count();
                    }
                    break;
                default:
                    now.wind = Integer.parseInt(numbers[0]);
                    break;
            }
            if (!allowed) {
                now = before;
                throw new IllegalStateException();
            }
        }
        Match after = now;
        now = before;
        save();
        now = after;
        buffer = "";
        return played;
    }

    void keep(int slot) {
        argument(in(slot, 0, 1));
        slots[slot] = now.copy();
    }

    void goBack(int slot) {
        argument(in(slot, 0, 1));
        state(slots[slot] != null);
        save();
        now = slots[slot].copy();
    }

    void undo() {
        state(!saved.isEmpty());
        now = saved.removeLast();
    }

    static int fate(Thing bowl) {
        return bowl.dead ? 2 : bowl.row == 60 ? 1 : 0;
    }

    int nearest(int place) {
        index(place >= 0 && now.jack != null && place < now.byDistance().size());
        return now.bowls.indexOf(now.byDistance().get(place));
    }

    int gap() {
        state(now.jack != null);
        int near0 = now.nearestOf(0);
        int near1 = now.nearestOf(1);
        state(near0 != 9999 && near1 != 9999);
        return Math.abs(near0 - near1);
    }

    int spread() {
        int most = 0;
        for (Thing bowl : now.alive()) {
            for (Thing other : now.alive()) {
                most = Math.max(most, bowl.apart(other));
            }
        }
        return most;
    }

    int leader() {
        state(now.points() != 0);
        return now.points() > 0 ? 0 : 1;
    }

    int bowlAt(int row, int column) {
        index(in(row, 0, 59) && in(column, 0, 20));
        Thing thing = now.at(row, column);
        state(thing != null && thing != now.jack);
        return now.bowls.indexOf(thing);
    }

    int curve(int aim, int weight, int bias, int steps) {
        argument(in(aim, -9, 9) && in(weight, 15, 70) && in(bias, -3, 3) && in(steps, 0, weight));
        for (int step = 1; step <= steps; step++) {
            if (step > 59 || !in(Match.column(step, aim + now.wind, bias), 0, 20)) {
                return -1;
            }
        }
        return 21 * steps + (steps == 0 ? 10 : Match.column(steps, aim + now.wind, bias));
    }

    int wouldCount(int aim, int weight, int bias) {
        argument(in(aim, -9, 9) && in(weight, 15, 70) && in(bias, -3, 3));
        state(now.mayPlay());
        Match trial = now.copy();
        trial.play(aim, weight, bias);
        return now.turn() == 0 ? trial.points() : -trial.points();
    }

    int wouldStrike(int aim, int weight, int bias) {
        argument(in(aim, -9, 9) && in(weight, 15, 70) && in(bias, -3, 3));
        state(now.mayPlay());
        Match trial = now.copy();
        trial.play(aim, weight, bias);
        return trial.strikes;
    }

    int bestWeight(int aim, int bias) {
        argument(in(aim, -9, 9) && in(bias, -3, 3));
        state(now.mayPlay());
        int best = 70;
        for (int weight = 70; weight >= 15; weight--) {
            if (wouldCount(aim, weight, bias) >= wouldCount(aim, best, bias)) {
                best = weight;
            }
        }
        return best;
    }

    int bestPlay() {
        state(now.mayPlay());
        int best = -1;
        int most = -99;
        for (int code = 0; code < 5000; code++) {
            int weight = code % 100;
            int bias = code / 100 % 10 - 1;
            if (in(weight, 15, 70) && bias <= 1) {
                int points = wouldCount(code / 1000 - 2, weight, bias);
                if (points > most) {
                    most = points;
                    best = code;
                }
            }
        }
        return best;
    }

    double meanPoints() {
        return now.ends.isEmpty() ? 0.0 : (double) (now.pointsOf(0) + now.pointsOf(1)) / now.ends.size();
    }

    long digest() {
        List<Long> list = new ArrayList<>();
        endDigest(list);
        countDigest(list);
        add(list, curve(3, 40, -1, 40), curve(3, 40, -1, 40));
        add(list, now.pointsOf(0), now.pointsOf(1), now.needed, bit(now.over()), now.ends.size(), now.burntEnds);
        add(list, now.kept().size());
        for (int points : now.kept()) {
            add(list, points);
        }
        for (int points = -8; points <= 8; points++) {
            add(list, endsWith(points));
        }
        add(list, now.streak(), now.putBack, now.played, now.touchers, now.first, now.wind);
        add(list, bit(now.back), bit(now.twice), saved.size(), Double.doubleToLongBits(meanPoints()));
        add(list, bit(slots[0] != null), bit(slots[1] != null), buffer.length());
        for (char sign : buffer.toCharArray()) {
            add(list, sign);
        }
        long hash = 4423;
        for (long value : list) {
            hash = 31 * hash + value;
        }
        return hash;
    }

    private void endDigest(List<Long> list) {
        Thing jack = now.jack;
        add(list, bit(jack != null), jack == null ? 0 : 21 * jack.row + jack.column + 1, bit(now.burnt()));
        add(list, now.bowls.size(), now.each, now.mayPlay() ? now.turn() + 1 : 0);
        for (Thing bowl : now.bowls) {
            add(list, bowl.side, fate(bowl), bowl.dead ? 0 : 21 * bowl.row + bowl.column + 1, bit(bowl.toucher));
            add(list, bowl.dead ? 0 : bowl.apart(jack) + 1, bowl.aim, bowl.weight, bowl.bias);
        }
    }

    private void countDigest(List<Long> list) {
        int points = now.points();
        add(list, points == 0 ? 0 : points > 0 ? 1 : 2, Math.abs(points), Math.abs(points));
        if (now.jack != null) {
            for (Thing bowl : now.byDistance()) {
                add(list, now.bowls.indexOf(bowl));
            }
        }
        long alive0 = now.alive().stream().filter(b -> b.side == 0).count();
        long alive1 = now.alive().size() - alive0;
        add(list, alive0, alive1, now.jack == null || alive0 == 0 || alive1 == 0 ? 0 : gap() + 1, spread());
    }

    int endsWith(int points) {
        argument(in(points, -8, 8));
        return (int) now.ends.stream().filter(p -> p == points).count();
    }

    private static long bit(boolean value) {
        return value ? 1 : 0;
    }

    private static void add(List<Long> list, long... values) {
        for (long value : values) {
            list.add(value);
        }
    }
}
