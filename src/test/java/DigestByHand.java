import java.util.concurrent.Callable;

/** The digest of an object, put together from the answers of its other calls, word for word as promise 63 tells it. */
final class DigestByHand {
    private final WombatBowls x;
    private long hash;

    DigestByHand(WombatBowls x) {
        this.x = x;
    }

    private void add(long value) {
        hash = 31 * hash + value;
    }

    private void addOrZero(Callable<Integer> call) {
        long value;
        try {
            value = call.call() + 1;
        } catch (Exception e) {
            value = 0;
        }
        add(value);
    }

    /** What the other calls do not tell is given. */
    long of(boolean back, boolean twice, int slot0, int slot1, String buffer) {
        hash = 4423;
        add(x.isJackThere() ? 1 : 0);
        addOrZero(() -> 21 * x.jackRow() + x.jackColumn());
        add(x.isBurnt() ? 1 : 0);
        add(x.bowls());
        add(x.bowlsOfSide());
        addOrZero(() -> x.turn());
        for (int bowl = 0; bowl < x.bowls(); bowl++) {
            addBowl(bowl);
        }
        addOrZero(() -> x.leader());
        add(x.pointsByOrder());
        add(x.pointsByPairs());
        for (int place = 0; place < x.aliveOf(0) + x.aliveOf(1); place++) {
            add(x.nearest(place));
        }
        add(x.aliveOf(0));
        add(x.aliveOf(1));
        addOrZero(() -> x.gap());
        add(x.spread());
        add(x.curveBySteps(3, 40, -1, 40));
        add(x.curveByFormula(3, 40, -1, 40));
        addAccounts();
        add(back ? 1 : 0);
        add(twice ? 1 : 0);
        add(x.savedStates());
        add(Double.doubleToLongBits(x.meanPoints()));
        add(slot0);
        add(slot1);
        add(buffer.length());
        for (char sign : buffer.toCharArray()) {
            add(sign);
        }
        return hash;
    }

    private void addBowl(int bowl) {
        add(x.sideOf(bowl));
        add(x.stateOf(bowl));
        addOrZero(() -> 21 * x.rowOf(bowl) + x.columnOf(bowl));
        add(x.isToucher(bowl) ? 1 : 0);
        addOrZero(() -> x.distanceOf(bowl));
        add(x.aimOf(bowl));
        add(x.weightOf(bowl));
        add(x.biasOf(bowl));
    }

    private void addAccounts() {
        add(x.pointsOf(0));
        add(x.pointsOf(1));
        add(x.needed());
        add(x.isOver() ? 1 : 0);
        add(x.ends());
        add(x.burntEnds());
        add(x.keptEnds());
        for (int end = 0; end < x.keptEnds(); end++) {
            add(x.pointsOfEnd(end));
        }
        for (int points = -8; points <= 8; points++) {
            add(x.endsWith(points));
        }
        add(x.streak());
        add(x.putBack());
        add(x.played());
        add(x.touchers());
        add(x.first());
        add(x.wind());
    }
}
