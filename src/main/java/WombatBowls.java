/** A match of wombat bowls, with what would be, accounts, moves as texts, snapshots and undo. */
public final class WombatBowls {
    private static final int ROWS = 60;
    private static final int COLUMNS = 21;
    private static final int DITCH = ROWS * COLUMNS;
    private static final int GONE = -1;
    private static final int NONE = -1;
    private static final int MIDDLE = 10;
    private static final int BACK_ROW = 40;
    private static final int MOST_BOWLS = 8;
    private static final int JACK = MOST_BOWLS;
    private static final int THINGS = MOST_BOWLS + 1;
    private static final int LEAST_LENGTH = 20;
    private static final int MOST_LENGTH = 50;
    private static final int MOST_AIM = 9;
    private static final int LEAST_WEIGHT = 15;
    private static final int MOST_WEIGHT = 70;
    private static final int MOST_BIAS = 3;
    private static final int MOST_WIND = 5;
    private static final int MOST_EACH = 4;
    private static final int MOST_NEEDED = 50;
    private static final int MOST_POINTS = 8;
    private static final int KEPT_ENDS = 12;
    private static final int SLOTS = 2;
    private static final int SAVED = 6;
    private static final int BUFFER = 60;

    private final State now = new State();
    private final State trial = new State();
    private final Shelf slots = new Shelf(SLOTS);
    private final int[] slotsTaken = new int[SLOTS];
    private final Shelf saved = new Shelf(SAVED);
    private int oldestSaved = 0;
    private int savedCount = 0;
    private final Text text = new Text();

    public WombatBowls() {
    }

    // ---- an end

    public int roll(int length) throws IllegalArgumentException, IllegalStateException {
        if (length < LEAST_LENGTH || length > MOST_LENGTH) {
            throw new IllegalArgumentException("length is out of range");
        }
        if (!now.canRoll()) {
            throw new IllegalStateException("the match is over, or the jack lies");
        }
        saveState();
        now.rollJack(length);
        return now.nextSide();
    }

    public int play(int aim, int weight, int bias) throws IllegalArgumentException, IllegalStateException {
        if (!isPlay(aim, weight, bias)) {
            throw new IllegalArgumentException("aim, weight or bias is out of range");
        }
        if (!now.canPlay()) {
            throw new IllegalStateException("no bowl can be played");
        }
        saveState();
        int bowl = now.playBowl(aim, weight, bias);
        return now.green.fateOf(bowl);
    }

    public int count() throws IllegalStateException {
        if (!now.canCount()) {
            throw new IllegalStateException("there is no end to be counted");
        }
        saveState();
        return now.countEnd();
    }

    // ---- the match

    public int begin(int points) throws IllegalArgumentException {
        if (points < 1 || points > MOST_NEEDED) {
            throw new IllegalArgumentException("points is out of range");
        }
        saveState();
        int before = now.score.pointsNeeded;
        now.green.takeAway();
        now.score.startMatch(points);
        return before;
    }

    public int changeBowls(int bowls) throws IllegalArgumentException, IllegalStateException {
        if (bowls < 1 || bowls > MOST_EACH) {
            throw new IllegalArgumentException("bowls is out of range");
        }
        if (now.green.hasJack()) {
            throw new IllegalStateException("the jack lies");
        }
        saveState();
        int before = now.bowlsEach;
        now.bowlsEach = bowls;
        return before;
    }

    public int changeWind(int wind) throws IllegalArgumentException {
        if (wind < -MOST_WIND || wind > MOST_WIND) {
            throw new IllegalArgumentException("wind is out of range");
        }
        saveState();
        int before = now.blowing;
        now.blowing = wind;
        return before;
    }

    public boolean turnBack() {
        saveState();
        now.jackGoesBack = !now.jackGoesBack;
        now.rescueJack();
        return now.jackGoesBack;
    }

    public boolean turnTwice() {
        saveState();
        now.touchersTwice = !now.touchersTwice;
        return now.touchersTwice;
    }

    // ---- texts

    public int append(int code) throws IllegalArgumentException, IllegalStateException {
        if (code < 33 || code > 126) {
            throw new IllegalArgumentException("code is not 33 to 126");
        }
        if (text.length >= BUFFER) {
            throw new IllegalStateException("the buffer is full");
        }
        text.add(code);
        return text.length;
    }

    public int clearBuffer() {
        int before = text.length;
        text.length = 0;
        return before;
    }

    public int firstError() {
        return text.firstWrong();
    }

    public int playAll() throws IllegalArgumentException, IllegalStateException {
        if (!text.isWhole()) {
            throw new IllegalArgumentException("the buffer does not tell moves");
        }
        trial.copyFrom(now);
        int bowls = 0;
        for (int index = 0; index < text.length; index++) {
            if (!canMove(trial, text.codeAt(index))) {
                throw new IllegalStateException("a move of the buffer can not be made");
            }
            playMove(trial, index);
            if (text.codeAt(index) == 'b') {
                bowls++;
            }
        }
        saveState();
        now.copyFrom(trial);
        text.length = 0;
        return bowls;
    }

    // ---- snapshots, undo

    public void keep(int slot) throws IllegalArgumentException {
        if (slot < 0 || slot >= SLOTS) {
            throw new IllegalArgumentException("slot is out of range");
        }
        slots.write(slot, now);
        put(slotsTaken, slot, 1);
    }

    public void goBack(int slot) throws IllegalArgumentException, IllegalStateException {
        if (slot < 0 || slot >= SLOTS) {
            throw new IllegalArgumentException("slot is out of range");
        }
        if (at(slotsTaken, slot) == 0) {
            throw new IllegalStateException("there is no snapshot in the slot");
        }
        saveState();
        slots.read(slot, now);
    }

    public void undo() throws IllegalStateException {
        if (savedCount <= 0) {
            throw new IllegalStateException("no state is saved");
        }
        savedCount--;
        saved.read((oldestSaved + savedCount) % SAVED, now);
    }

    public int savedStates() {
        return savedCount;
    }

    // ---- the end as it is; nothing is changed

    public boolean isJackThere() {
        return now.green.hasJack();
    }

    public int jackRow() throws IllegalStateException {
        if (!now.green.hasJack()) {
            throw new IllegalStateException("the jack does not lie");
        }
        return now.green.placeOf(JACK) / COLUMNS;
    }

    public int jackColumn() throws IllegalStateException {
        if (!now.green.hasJack()) {
            throw new IllegalStateException("the jack does not lie");
        }
        return now.green.placeOf(JACK) % COLUMNS;
    }

    public boolean isBurnt() {
        return now.green.isJackLost();
    }

    public int bowls() {
        return now.green.bowlCount;
    }

    public int bowlsOfSide() {
        return now.bowlsEach;
    }

    public int turn() throws IllegalStateException {
        if (!now.canPlay()) {
            throw new IllegalStateException("no bowl can be played");
        }
        return now.nextSide();
    }

    public int sideOf(int bowl) throws IndexOutOfBoundsException {
        requireBowl(bowl);
        return at(now.green.sides, bowl);
    }

    public int stateOf(int bowl) throws IndexOutOfBoundsException {
        requireBowl(bowl);
        return now.green.fateOf(bowl);
    }

    public int rowOf(int bowl) throws IndexOutOfBoundsException, IllegalStateException {
        requireBowl(bowl);
        requireAlive(bowl);
        return now.green.placeOf(bowl) / COLUMNS;
    }

    public int columnOf(int bowl) throws IndexOutOfBoundsException, IllegalStateException {
        requireBowl(bowl);
        requireAlive(bowl);
        return now.green.placeOf(bowl) % COLUMNS;
    }

    public boolean isToucher(int bowl) throws IndexOutOfBoundsException {
        requireBowl(bowl);
        return at(now.green.touched, bowl) == 1;
    }

    public int distanceOf(int bowl) throws IndexOutOfBoundsException, IllegalStateException {
        requireBowl(bowl);
        requireAlive(bowl);
        if (!now.green.hasJack()) {
            throw new IllegalStateException("the jack does not lie");
        }
        return now.green.distance(bowl);
    }

    public int bowlAt(int row, int column) throws IndexOutOfBoundsException, IllegalStateException {
        if (row < 0 || row >= ROWS || isOut(column)) {
            throw new IndexOutOfBoundsException("there is no such place");
        }
        int thing = now.green.thingAt(row * COLUMNS + column);
        if (thing == NONE || thing == JACK) {
            throw new IllegalStateException("no bowl lies there");
        }
        return thing;
    }

    public int aimOf(int bowl) throws IndexOutOfBoundsException {
        requireBowl(bowl);
        return at(now.green.aims, bowl);
    }

    public int weightOf(int bowl) throws IndexOutOfBoundsException {
        requireBowl(bowl);
        return at(now.green.weights, bowl);
    }

    public int biasOf(int bowl) throws IndexOutOfBoundsException {
        requireBowl(bowl);
        return at(now.green.biases, bowl);
    }

    // ---- counting; nothing is changed

    public int leader() throws IllegalStateException {
        int side = now.green.scoringSide();
        if (side == NONE) {
            throw new IllegalStateException("no side would score");
        }
        return side;
    }

    public int pointsByOrder() {
        return now.green.orderedPoints(now.touchersTwice);
    }

    public int pointsByPairs() {
        return now.green.pairedPoints(now.touchersTwice);
    }

    public int nearest(int place) throws IndexOutOfBoundsException {
        if (place < 0 || !now.green.hasJack() || place >= now.green.sortByDistance()) {
            throw new IndexOutOfBoundsException("there is no such place");
        }
        return at(now.green.order, place);
    }

    public int aliveOf(int side) throws IndexOutOfBoundsException {
        requireSide(side);
        return now.green.aliveCount(side);
    }

    public int gap() throws IllegalStateException {
        int difference = now.green.gapOfSides();
        if (difference == NONE) {
            throw new IllegalStateException("the jack does not lie, or a side has no bowl");
        }
        return difference;
    }

    public int spread() {
        return now.green.farthestApart();
    }

    // ---- curves; nothing is changed

    public int curveBySteps(int aim, int weight, int bias, int steps) throws IllegalArgumentException {
        requireCurve(aim, weight, bias, steps);
        return placeBySteps(aim + now.blowing, bias, steps);
    }

    public int curveByFormula(int aim, int weight, int bias, int steps) throws IllegalArgumentException {
        requireCurve(aim, weight, bias, steps);
        return placeByFormula(aim + now.blowing, bias, steps);
    }

    // ---- what would be; nothing is changed

    public int wouldCount(int aim, int weight, int bias) throws IllegalArgumentException, IllegalStateException {
        if (!isPlay(aim, weight, bias)) {
            throw new IllegalArgumentException("aim, weight or bias is out of range");
        }
        if (!now.canPlay()) {
            throw new IllegalStateException("no bowl can be played");
        }
        return countIfPlayed(aim, weight, bias);
    }

    public int bestWeight(int aim, int bias) throws IllegalArgumentException, IllegalStateException {
        if (!isPlay(aim, LEAST_WEIGHT, bias)) {
            throw new IllegalArgumentException("aim or bias is out of range");
        }
        if (!now.canPlay()) {
            throw new IllegalStateException("no bowl can be played");
        }
        int best = LEAST_WEIGHT;
        int most = countIfPlayed(aim, LEAST_WEIGHT, bias);
        for (int weight = LEAST_WEIGHT + 1; weight <= MOST_WEIGHT; weight++) {
            int points = countIfPlayed(aim, weight, bias);
            if (points > most) {
                most = points;
                best = weight;
            }
        }
        return best;
    }

    public int wouldStrike(int aim, int weight, int bias) throws IllegalArgumentException, IllegalStateException {
        if (!isPlay(aim, weight, bias)) {
            throw new IllegalArgumentException("aim, weight or bias is out of range");
        }
        if (!now.canPlay()) {
            throw new IllegalStateException("no bowl can be played");
        }
        trial.copyFrom(now);
        trial.playBowl(aim, weight, bias);
        return trial.green.strikes;
    }

    public int bestPlay() throws IllegalStateException {
        if (!now.canPlay()) {
            throw new IllegalStateException("no bowl can be played");
        }
        int best = LEAST_WEIGHT;
        int most = countIfPlayed(-2, LEAST_WEIGHT, -1);
        for (int aim = -2; aim <= 2; aim++) {
            for (int bias = -1; bias <= 1; bias++) {
                for (int weight = LEAST_WEIGHT; weight <= MOST_WEIGHT; weight++) {
                    int points = countIfPlayed(aim, weight, bias);
                    if (points > most) {
                        most = points;
                        best = 1000 * (aim + 2) + 100 * (bias + 1) + weight;
                    }
                }
            }
        }
        return best;
    }

    // ---- accounts; nothing is changed

    public int pointsOf(int side) throws IndexOutOfBoundsException {
        requireSide(side);
        return at(now.score.points, side);
    }

    public int needed() {
        return now.score.pointsNeeded;
    }

    public boolean isOver() {
        return now.score.isWon();
    }

    public int ends() {
        return now.score.endCount;
    }

    public int burntEnds() {
        return now.score.burntCount;
    }

    public int pointsOfEnd(int end) throws IndexOutOfBoundsException {
        if (end < 0 || end >= now.score.latestCount) {
            throw new IndexOutOfBoundsException("there is no such end");
        }
        return at(now.score.latest, end);
    }

    public int keptEnds() {
        return now.score.latestCount;
    }

    public int endsWith(int points) throws IllegalArgumentException {
        if (points < -MOST_POINTS || points > MOST_POINTS) {
            throw new IllegalArgumentException("points is out of range");
        }
        return at(now.score.endsByPoints, points + MOST_POINTS);
    }

    public int streak() {
        return now.score.latestWins();
    }

    public int putBack() {
        return now.score.backCount;
    }

    public int played() {
        return now.score.bowlCount;
    }

    public int touchers() {
        return now.score.toucherCount;
    }

    public int first() {
        return now.score.firstSide;
    }

    public int wind() {
        return now.blowing;
    }

    public double meanPoints() {
        return now.score.mean();
    }

    public long digest() {
        long hash = 4423;
        hash = mixEnd(hash);
        hash = mixBowls(hash);
        hash = mixCounting(hash);
        hash = mixMatch(hash);
        return mixRest(hash);
    }

    private long mixEnd(long start) {
        Green green = now.green;
        long hash = mix(start, green.hasJack() ? 1 : 0);
        hash = mix(hash, green.placeOf(JACK) + 1);
        hash = mix(hash, green.isJackLost() ? 1 : 0);
        hash = mix(hash, green.bowlCount);
        hash = mix(hash, now.bowlsEach);
        return mix(hash, now.canPlay() ? now.nextSide() + 1 : 0);
    }

    private long mixBowls(long start) {
        Green green = now.green;
        long hash = start;
        for (int bowl = 0; bowl < green.bowlCount; bowl++) {
            hash = mix(hash, at(green.sides, bowl));
            hash = mix(hash, green.fateOf(bowl));
            hash = mix(hash, green.placeOf(bowl) + 1);
            hash = mix(hash, at(green.touched, bowl));
            hash = mix(hash, green.isAlive(bowl) ? green.distance(bowl) + 1 : 0);
            hash = mix(hash, at(green.aims, bowl));
            hash = mix(hash, at(green.weights, bowl));
            hash = mix(hash, at(green.biases, bowl));
        }
        return hash;
    }

    private long mixCounting(long start) {
        Green green = now.green;
        long hash = mix(start, green.scoringSide() + 1);
        hash = mix(hash, green.orderedPoints(now.touchersTwice));
        hash = mix(hash, green.pairedPoints(now.touchersTwice));
        int alive = green.sortByDistance();
        for (int place = 0; place < alive; place++) {
            hash = mix(hash, at(green.order, place));
        }
        hash = mix(hash, green.aliveCount(0));
        hash = mix(hash, green.aliveCount(1));
        hash = mix(hash, green.gapOfSides() + 1);
        hash = mix(hash, green.farthestApart());
        hash = mix(hash, placeBySteps(3 + now.blowing, -1, 40));
        return mix(hash, placeByFormula(3 + now.blowing, -1, 40));
    }

    private long mixMatch(long start) {
        Score score = now.score;
        long hash = mixAll(start, score.points, score.points.length);
        hash = mix(hash, score.pointsNeeded);
        hash = mix(hash, score.isWon() ? 1 : 0);
        hash = mix(hash, score.endCount);
        hash = mix(hash, score.burntCount);
        hash = mix(hash, score.latestCount);
        hash = mixAll(hash, score.latest, score.latestCount);
        hash = mixAll(hash, score.endsByPoints, score.endsByPoints.length);
        hash = mix(hash, score.latestWins());
        hash = mix(hash, score.backCount);
        hash = mix(hash, score.bowlCount);
        hash = mix(hash, score.toucherCount);
        return mix(hash, score.firstSide);
    }

    private long mixRest(long start) {
        long hash = mix(start, now.blowing);
        hash = mix(hash, now.jackGoesBack ? 1 : 0);
        hash = mix(hash, now.touchersTwice ? 1 : 0);
        hash = mix(hash, savedCount);
        hash = mix(hash, bitsOf(now.score.mean()));
        hash = mixAll(hash, slotsTaken, slotsTaken.length);
        hash = mix(hash, text.length);
        return mixAll(hash, text.codes, text.length);
    }

    private static long mix(long hash, long value) {
        return 31 * hash + value;
    }

    private static long mixAll(long start, int[] list, int length) {
        long hash = start;
        for (int index = 0; index < length; index++) {
            hash = mix(hash, at(list, index));
        }
        return hash;
    }

    /** The language leaves no Double.doubleToLongBits; scaling by two is exact, so the bits come out the same. */
    private static long bitsOf(double value) {
        if (!(value > 0.0)) {
            return 0L;
        }
        double scaled = value;
        long exponent = 1023;
        for (int turn = 0; turn < 1023 && scaled >= 2.0; turn++) {
            scaled = scaled / 2.0;
            exponent++;
        }
        for (int turn = 0; turn < 1022 && scaled < 1.0; turn++) {
            scaled = scaled * 2.0;
            exponent--;
        }
        return (exponent << 52) + (long) ((scaled - 1.0) * 4503599627370496.0);
    }

    private int countIfPlayed(int aim, int weight, int bias) {
        int side = now.nextSide();
        trial.copyFrom(now);
        trial.playBowl(aim, weight, bias);
        int points = trial.green.pairedPoints(trial.touchersTwice);
        return trial.green.scoringSide() == side ? points : -points;
    }

    private static boolean canMove(State state, int letter) {
        switch (letter) {
            case 'j':
                return state.canRoll();
            case 'b':
                return state.canPlay();
            case 'c':
                return state.canCount();
            default:
                return true;
        }
    }

    /** Plays the move that begins at this index of the buffer; what is not a move's letter is passed over. */
    private void playMove(State state, int index) {
        switch (text.codeAt(index)) {
            case 'j':
                state.rollJack(text.numberFrom(index + 1));
                break;
            case 'b':
                int weightFrom = text.pastComma(index);
                int weight = text.numberFrom(weightFrom);
                state.playBowl(text.numberFrom(index + 1), weight, text.numberFrom(text.pastComma(weightFrom)));
                break;
            case 'c':
                state.countEnd();
                break;
            case 'w':
                state.blowing = text.numberFrom(index + 1);
                break;
            default:
                break;
        }
    }

    private void saveState() {
        if (savedCount >= SAVED) {
            oldestSaved = (oldestSaved + 1) % SAVED;
            savedCount--;
        }
        saved.write((oldestSaved + savedCount) % SAVED, now);
        savedCount++;
    }

    private void requireBowl(int bowl) throws IndexOutOfBoundsException {
        if (bowl < 0 || bowl >= now.green.bowlCount) {
            throw new IndexOutOfBoundsException("there is no such bowl");
        }
    }

    private void requireAlive(int bowl) throws IllegalStateException {
        if (!now.green.isAlive(bowl)) {
            throw new IllegalStateException("the bowl is dead");
        }
    }

    private static void requireSide(int side) throws IndexOutOfBoundsException {
        if (side < 0 || side > 1) {
            throw new IndexOutOfBoundsException("there is no such side");
        }
    }

    private static void requireCurve(int aim, int weight, int bias, int steps) throws IllegalArgumentException {
        if (!isPlay(aim, weight, bias) || steps < 0 || steps > weight) {
            throw new IllegalArgumentException("aim, weight, bias or steps is out of range");
        }
    }

    private static boolean isPlay(int aim, int weight, int bias) {
        return aim >= -MOST_AIM && aim <= MOST_AIM
            && weight >= LEAST_WEIGHT && weight <= MOST_WEIGHT
            && bias >= -MOST_BIAS && bias <= MOST_BIAS;
    }

    private static boolean isOut(int column) {
        return column < 0 || column >= COLUMNS;
    }

    private static int columnAfter(int step, int drift, int bias) {
        int bend = step * (step + 1) / 2;
        return Math.floorDiv(1050 + 10 * step * drift + bias * bend, 100);
    }

    private static int placeBySteps(int drift, int bias, int steps) {
        int hundredths = 1050;
        int place = MIDDLE;
        for (int step = 1; step <= steps; step++) {
            hundredths = hundredths + 10 * drift + bias * step;
            int column = Math.floorDiv(hundredths, 100);
            if (step >= ROWS || isOut(column)) {
                return NONE;
            }
            place = step * COLUMNS + column;
        }
        return place;
    }

    private static int placeByFormula(int drift, int bias, int steps) {
        for (int step = 1; step <= steps; step++) {
            if (isOut(columnAfter(step, drift, bias))) {
                return NONE;
            }
        }
        return steps >= ROWS ? NONE : steps * COLUMNS + columnAfter(steps, drift, bias);
    }

    private static int at(int[] list, int index) {
        return index >= 0 && index < list.length ? list[index] : 0;
    }

    private static void put(int[] list, int index, int value) {
        if (index >= 0 && index < list.length) {
            list[index] = value;
        }
    }

    private static void copyAll(int[] from, int[] to) {
        for (int index = 0; index < from.length && index < to.length; index++) {
            to[index] = from[index];
        }
    }

    private static void fillAll(int[] list, int value) {
        for (int index = 0; index < list.length; index++) {
            list[index] = value;
        }
    }

    /**
     * The jack and the bowls of one end. A thing's place is 21 times its row, and its column, together, so that
     * the ditch is what lies from DITCH on; GONE stands for a dead bowl and for a jack that is to be rolled.
     */
    private static final class Green {
        final int[] places = new int[THINGS];
        final int[] sides = new int[MOST_BOWLS];
        final int[] aims = new int[MOST_BOWLS];
        final int[] weights = new int[MOST_BOWLS];
        final int[] biases = new int[MOST_BOWLS];
        final int[] touched = new int[MOST_BOWLS];
        final int[] order = new int[MOST_BOWLS];
        int bowlCount = 0;
        int strikes = 0;

        Green() {
            for (int thing = 0; thing < places.length; thing++) {
                places[thing] = GONE;
            }
        }

        void copyFrom(Green other) {
            copyAll(other.places, places);
            copyAll(other.sides, sides);
            copyAll(other.aims, aims);
            copyAll(other.weights, weights);
            copyAll(other.biases, biases);
            copyAll(other.touched, touched);
            bowlCount = other.bowlCount;
            strikes = other.strikes;
        }

        void takeAway() {
            fillAll(places, GONE);
            fillAll(touched, 0);
            bowlCount = 0;
        }

        boolean hasJack() {
            return isAlive(JACK);
        }

        boolean isAlive(int thing) {
            return placeOf(thing) != GONE;
        }

        int placeOf(int thing) {
            return thing >= 0 && thing < places.length ? places[thing] : GONE;
        }

        int fateOf(int bowl) {
            int place = placeOf(bowl);
            if (place == GONE) {
                return 2;
            }
            return place >= DITCH ? 1 : 0;
        }

        boolean hasToucher() {
            for (int mark : touched) {
                if (mark == 1) {
                    return true;
                }
            }
            return false;
        }

        boolean isJackLost() {
            return placeOf(JACK) >= DITCH && !hasToucher();
        }

        void putJackBack() {
            int place = BACK_ROW * COLUMNS + MIDDLE;
            while (place < DITCH - COLUMNS && thingAt(place) != NONE) {
                place += COLUMNS;
            }
            put(places, JACK, place);
        }

        int thingAt(int place) {
            for (int thing = 0; thing < places.length; thing++) {
                if (places[thing] == place) {
                    return thing;
                }
            }
            return NONE;
        }

        int addBowl(int side, int aim, int weight, int bias) {
            int bowl = bowlCount;
            put(sides, bowl, side);
            put(aims, bowl, aim);
            put(weights, bowl, weight);
            put(biases, bowl, bias);
            put(touched, bowl, 0);
            put(places, bowl, GONE);
            strikes = 0;
            bowlCount = bowl + 1;
            return bowl;
        }

        /** A bowl that comes to the ditch by its own way has struck nothing, is no toucher, and so stays gone. */
        void sendBowl(int bowl, int wind) {
            int drift = at(aims, bowl) + wind;
            int bias = at(biases, bowl);
            int weight = at(weights, bowl);
            int place = MIDDLE;
            for (int step = 1; step <= weight; step++) {
                int column = columnAfter(step, drift, bias);
                if (step >= ROWS || isOut(column)) {
                    return;
                }
                int next = step * COLUMNS + column;
                int other = thingAt(next);
                if (other != NONE) {
                    put(places, bowl, step == 1 ? GONE : place);
                    put(touched, bowl, other == JACK ? 1 : 0);
                    strikes++;
                    pushOn(other, (weight - step) / 2);
                    return;
                }
                place = next;
            }
            put(places, bowl, place);
        }

        private void pushOn(int struck, int steps) {
            int thing = struck;
            int left = steps;
            while (left > 0) {
                left--;
                int next = placeOf(thing) + COLUMNS;
                if (next >= DITCH) {
                    put(places, thing, thing == JACK || at(touched, thing) == 1 ? next : GONE);
                    return;
                }
                int other = thingAt(next);
                if (other == NONE) {
                    put(places, thing, next);
                } else {
                    strikes++;
                    thing = other;
                    left = left / 2;
                }
            }
        }

        private static int apart(int place, int other) {
            int rows = place / COLUMNS - other / COLUMNS;
            int columns = place % COLUMNS - other % COLUMNS;
            return rows * rows + columns * columns;
        }

        int distance(int bowl) {
            return apart(placeOf(bowl), placeOf(JACK));
        }

        int aliveCount(int side) {
            int alive = 0;
            for (int bowl = 0; bowl < bowlCount; bowl++) {
                if (isAlive(bowl) && at(sides, bowl) == side) {
                    alive++;
                }
            }
            return alive;
        }

        /** Puts the bowls that are not dead into the order; returns how many they are. */
        int sortByDistance() {
            int alive = 0;
            for (int bowl = 0; bowl < bowlCount; bowl++) {
                if (isAlive(bowl)) {
                    int place = alive;
                    while (place > 0 && distance(at(order, place - 1)) > distance(bowl)) {
                        put(order, place, at(order, place - 1));
                        place--;
                    }
                    put(order, place, bowl);
                    alive++;
                }
            }
            return alive;
        }

        int worth(int bowl, boolean twice) {
            return twice && at(touched, bowl) == 1 ? 2 : 1;
        }

        int orderedPoints(boolean twice) {
            int alive = isJackLost() ? 0 : sortByDistance();
            int side = at(sides, at(order, 0));
            int same = 0;
            while (same < alive && at(sides, at(order, same)) == side) {
                same++;
            }
            int points = 0;
            for (int place = 0; place < same; place++) {
                int bowl = at(order, place);
                if (same == alive || distance(bowl) < distance(at(order, same))) {
                    points += worth(bowl, twice);
                }
            }
            return points;
        }

        int pairedPoints(boolean twice) {
            int counted = isJackLost() ? 0 : bowlCount;
            int points = 0;
            for (int bowl = 0; bowl < counted; bowl++) {
                if (isNearerThanOthers(bowl)) {
                    points += worth(bowl, twice);
                }
            }
            return points;
        }

        int scoringSide() {
            int counted = isJackLost() ? 0 : bowlCount;
            for (int bowl = 0; bowl < counted; bowl++) {
                if (isNearerThanOthers(bowl)) {
                    return at(sides, bowl);
                }
            }
            return NONE;
        }

        private boolean isNearerThanOthers(int bowl) {
            if (!isAlive(bowl)) {
                return false;
            }
            for (int other = 0; other < bowlCount; other++) {
                if (at(sides, other) != at(sides, bowl) && isAlive(other) && distance(other) <= distance(bowl)) {
                    return false;
                }
            }
            return true;
        }

        int gapOfSides() {
            int nearest0 = nearestDistance(0);
            int nearest1 = nearestDistance(1);
            if (!hasJack() || nearest0 == NONE || nearest1 == NONE) {
                return NONE;
            }
            return Math.abs(nearest0 - nearest1);
        }

        private int nearestDistance(int side) {
            int least = NONE;
            for (int bowl = 0; bowl < bowlCount; bowl++) {
                if (at(sides, bowl) == side && isAlive(bowl) && (least == NONE || distance(bowl) < least)) {
                    least = distance(bowl);
                }
            }
            return least;
        }

        int farthestApart() {
            int most = 0;
            for (int bowl = 0; bowl < bowlCount; bowl++) {
                for (int other = 0; other < bowl; other++) {
                    if (isAlive(bowl) && isAlive(other)) {
                        most = Math.max(most, apart(placeOf(bowl), placeOf(other)));
                    }
                }
            }
            return most;
        }
    }

    /** What a match has come to. */
    private static final class Score {
        final int[] points = new int[2];
        final int[] latest = new int[KEPT_ENDS];
        final int[] endsByPoints = new int[2 * MOST_POINTS + 1];
        int pointsNeeded = 21;
        int endCount = 0;
        int burntCount = 0;
        int latestCount = 0;
        int backCount = 0;
        int bowlCount = 0;
        int toucherCount = 0;
        int firstSide = 0;

        void copyFrom(Score other) {
            copyAll(other.points, points);
            copyAll(other.latest, latest);
            copyAll(other.endsByPoints, endsByPoints);
            pointsNeeded = other.pointsNeeded;
            endCount = other.endCount;
            burntCount = other.burntCount;
            latestCount = other.latestCount;
            backCount = other.backCount;
            bowlCount = other.bowlCount;
            toucherCount = other.toucherCount;
            firstSide = other.firstSide;
        }

        void startMatch(int newNeeded) {
            fillAll(points, 0);
            fillAll(latest, 0);
            fillAll(endsByPoints, 0);
            pointsNeeded = newNeeded;
            endCount = 0;
            burntCount = 0;
            latestCount = 0;
            backCount = 0;
            bowlCount = 0;
            toucherCount = 0;
            firstSide = 0;
        }

        boolean isWon() {
            return at(points, 0) >= pointsNeeded || at(points, 1) >= pointsNeeded;
        }

        void addPoints(int side, int more) {
            put(points, side, at(points, side) + more);
            firstSide = side;
        }

        /** Signed is above 0 for the side 0, below 0 for the side 1. */
        void addEnd(int signed) {
            endCount++;
            put(endsByPoints, signed + MOST_POINTS, at(endsByPoints, signed + MOST_POINTS) + 1);
            if (latestCount >= KEPT_ENDS) {
                for (int end = 1; end < latest.length; end++) {
                    put(latest, end - 1, latest[end]);
                }
                latestCount--;
            }
            put(latest, latestCount, signed);
            latestCount++;
        }

        int latestWins() {
            int sign = Integer.signum(at(latest, latestCount - 1));
            int wins = 0;
            while (sign != 0 && wins < latestCount && Integer.signum(at(latest, latestCount - 1 - wins)) == sign) {
                wins++;
            }
            return wins;
        }

        double mean() {
            int sum = at(points, 0) + at(points, 1);
            return endCount <= 0 ? 0.0 : (double) sum / (double) endCount;
        }
    }

    /** All that a snapshot holds. */
    private static final class State {
        final Green green = new Green();
        final Score score = new Score();
        int bowlsEach = MOST_EACH;
        int blowing = 0;
        boolean jackGoesBack = false;
        boolean touchersTwice = false;

        void copyFrom(State other) {
            green.copyFrom(other.green);
            score.copyFrom(other.score);
            bowlsEach = other.bowlsEach;
            blowing = other.blowing;
            jackGoesBack = other.jackGoesBack;
            touchersTwice = other.touchersTwice;
        }

        boolean canRoll() {
            return !score.isWon() && !green.hasJack();
        }

        boolean canPlay() {
            return green.hasJack() && green.bowlCount < 2 * bowlsEach && !green.isJackLost();
        }

        boolean canCount() {
            return green.hasJack() && !canPlay();
        }

        int nextSide() {
            return (score.firstSide + green.bowlCount) % 2;
        }

        void rollJack(int row) {
            green.takeAway();
            put(green.places, JACK, row * COLUMNS + MIDDLE);
        }

        int playBowl(int aim, int weight, int bias) {
            int bowl = green.addBowl(nextSide(), aim, weight, bias);
            green.sendBowl(bowl, blowing);
            score.bowlCount++;
            score.toucherCount += at(green.touched, bowl);
            rescueJack();
            return bowl;
        }

        /** Puts the jack back where the end would be burnt, if that is the rule. */
        void rescueJack() {
            if (jackGoesBack && green.isJackLost()) {
                green.putJackBack();
                score.backCount++;
            }
        }

        int countEnd() {
            int side = green.scoringSide();
            int points = green.pairedPoints(touchersTwice);
            if (green.isJackLost()) {
                score.burntCount++;
            }
            if (side != NONE) {
                score.addPoints(side, points);
            }
            score.addEnd(side == 1 ? -points : points);
            green.takeAway();
            return points;
        }
    }

    /** States that are made once and written over, so that no call makes objects. */
    private static final class Shelf {
        private final State[] states;

        Shelf(int size) {
            states = new State[Math.max(size, 0)];
            for (int index = 0; index < states.length; index++) {
                states[index] = new State();
            }
        }

        void write(int index, State from) {
            State state = stateAt(index);
            if (state != null) {
                state.copyFrom(from);
            }
        }

        void read(int index, State to) {
            State state = stateAt(index);
            if (state != null) {
                to.copyFrom(state);
            }
        }

        private State stateAt(int index) {
            return index >= 0 && index < states.length ? states[index] : null;
        }
    }

    /** The buffer, and what it tells. The constants name what was read last, and so what may come next. */
    private static final class Text {
        private static final int WRONG = -1;
        private static final int SEMICOLON = 0;
        private static final int LETTER_J = 1;
        private static final int LENGTH_TENS = 2;
        private static final int LENGTH_FIVE = 3;
        private static final int LETTER_B = 4;
        private static final int AIM_MINUS = 5;
        private static final int AIM = 6;
        private static final int AIM_COMMA = 7;
        private static final int WEIGHT_ONE = 8;
        private static final int WEIGHT_TENS = 9;
        private static final int WEIGHT_SEVEN = 10;
        private static final int WEIGHT = 11;
        private static final int WEIGHT_COMMA = 12;
        private static final int BIAS_MINUS = 13;
        private static final int LETTER_W = 14;
        private static final int WIND_MINUS = 15;
        private static final int PART = 16;

        final int[] codes = new int[BUFFER];
        int length = 0;

        void add(int code) {
            put(codes, length, code);
            length++;
        }

        int codeAt(int index) {
            return index < length ? at(codes, index) : 0;
        }

        int firstWrong() {
            int read = SEMICOLON;
            for (int index = 0; index < length; index++) {
                read = after(read, codeAt(index));
                if (read == WRONG) {
                    return index;
                }
            }
            return length;
        }

        boolean isWhole() {
            int read = SEMICOLON;
            for (int index = 0; index < length && read != WRONG; index++) {
                read = after(read, codeAt(index));
            }
            return read == PART;
        }

        /** Reads "-", if it stands there, and the digits behind it. */
        int numberFrom(int start) {
            boolean negative = codeAt(start) == '-';
            int number = 0;
            int index = negative ? start + 1 : start;
            while (index < length && isIn(codeAt(index), '0', '9')) {
                number = 10 * number + codeAt(index) - '0';
                index++;
            }
            return negative ? -number : number;
        }

        int pastComma(int start) {
            int index = start;
            while (index < length && codeAt(index) != ',') {
                index++;
            }
            return index + 1;
        }

        private static boolean isIn(int code, int least, int most) {
            return code >= least && code <= most;
        }

        private static int when(boolean fits, int next) {
            return fits ? next : WRONG;
        }

        private static int after(int read, int code) {
            switch (read) {
                case SEMICOLON:
                    return afterSemicolon(code);
                case LETTER_J:
                    return isIn(code, '2', '4') ? LENGTH_TENS : when(code == '5', LENGTH_FIVE);
                case LENGTH_TENS:
                    return when(isIn(code, '0', '9'), PART);
                case LENGTH_FIVE:
                    return when(code == '0', PART);
                case LETTER_W:
                    return code == '-' ? WIND_MINUS : when(isIn(code, '0', '5'), PART);
                case WIND_MINUS:
                    return when(isIn(code, '1', '5'), PART);
                case PART:
                    return when(code == ';', SEMICOLON);
                default:
                    return afterBowl(read, code);
            }
        }

        private static int afterSemicolon(int code) {
            switch (code) {
                case 'j':
                    return LETTER_J;
                case 'b':
                    return LETTER_B;
                case 'c':
                    return PART;
                case 'w':
                    return LETTER_W;
                default:
                    return WRONG;
            }
        }

        private static int afterBowl(int read, int code) {
            switch (read) {
                case LETTER_B:
                    return code == '-' ? AIM_MINUS : when(isIn(code, '0', '9'), AIM);
                case AIM_MINUS:
                    return when(isIn(code, '1', '9'), AIM);
                case AIM:
                    return when(code == ',', AIM_COMMA);
                case AIM_COMMA:
                    return afterAim(code);
                case WEIGHT_ONE:
                    return when(isIn(code, '5', '9'), WEIGHT);
                case WEIGHT_TENS:
                    return when(isIn(code, '0', '9'), WEIGHT);
                case WEIGHT_SEVEN:
                    return when(code == '0', WEIGHT);
                case WEIGHT:
                    return when(code == ',', WEIGHT_COMMA);
                case WEIGHT_COMMA:
                    return code == '-' ? BIAS_MINUS : when(isIn(code, '0', '3'), PART);
                case BIAS_MINUS:
                    return when(isIn(code, '1', '3'), PART);
                default:
                    return WRONG;
            }
        }

        private static int afterAim(int code) {
            if (code == '1') {
                return WEIGHT_ONE;
            }
            return isIn(code, '2', '6') ? WEIGHT_TENS : when(code == '7', WEIGHT_SEVEN);
        }
    }
}
