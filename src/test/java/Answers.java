import java.util.ArrayList;
import java.util.List;

/** Every answer of an object, told as texts, so that two objects can be held against each other. */
final class Answers {
    private final WombatBowls bowls;
    private final List<String> told = new ArrayList<>();

    private Answers(WombatBowls bowls) {
        this.bowls = bowls;
    }

    /** What all calls that change nothing answer, with numbers on both sides of each boundary; some 250 calls. */
    static List<String> all(WombatBowls bowls) {
        Answers answers = new Answers(bowls);
        answers.tellEnd();
        answers.tellBowls();
        answers.tellCounting();
        answers.tellWould();
        answers.tellMatch();
        answers.tell("firstError()", x -> x.firstError());
        answers.tell("savedStates()", x -> x.savedStates());
        answers.tell("digest()", x -> x.digest());
        return answers.told;
    }

    /** What is behind the saved states, the slots and the buffer; it uses the object up. */
    static List<String> behind(WombatBowls bowls) {
        Answers answers = new Answers(bowls);
        int saved = bowls.savedStates();
        for (int state = 0; state <= saved; state++) {
            answers.tell("undo() " + state, x -> {
                x.undo();
                return x.digest();
            });
        }
        for (int slot = 0; slot < 2; slot++) {
            int each = slot;
            answers.tell("goBack(" + slot + ")", x -> {
                x.goBack(each);
                return x.digest();
            });
        }
        answers.tell("playAll()", x -> x.playAll());
        answers.tell("digest() behind playAll()", x -> x.digest());
        answers.tell("clearBuffer()", x -> x.clearBuffer());
        return answers.told;
    }

    private void tell(String name, Check.Call call) {
        told.add(name + " is " + Check.answer(call, bowls));
    }

    private void tellEnd() {
        tell("isJackThere()", x -> x.isJackThere());
        tell("jackRow()", x -> x.jackRow());
        tell("jackColumn()", x -> x.jackColumn());
        tell("isBurnt()", x -> x.isBurnt());
        tell("bowls()", x -> x.bowls());
        tell("bowlsOfSide()", x -> x.bowlsOfSide());
        tell("turn()", x -> x.turn());
    }

    private void tellBowls() {
        for (int bowl = -1; bowl <= bowls.bowls(); bowl++) {
            int each = bowl;
            tell("sideOf " + bowl, x -> x.sideOf(each));
            tell("stateOf " + bowl, x -> x.stateOf(each));
            tell("rowOf " + bowl, x -> x.rowOf(each));
            tell("columnOf " + bowl, x -> x.columnOf(each));
            tell("isToucher " + bowl, x -> x.isToucher(each));
            tell("distanceOf " + bowl, x -> x.distanceOf(each));
            tell("bowlAt " + bowl, x -> x.bowlAt(x.rowOf(each), x.columnOf(each)));
            tell("aimOf " + bowl, x -> x.aimOf(each));
            tell("weightOf " + bowl, x -> x.weightOf(each));
            tell("biasOf " + bowl, x -> x.biasOf(each));
        }
        tell("bowlAt the jack", x -> x.bowlAt(x.jackRow(), x.jackColumn()));
    }

    private void tellCounting() {
        tell("leader()", x -> x.leader());
        tell("pointsByOrder()", x -> x.pointsByOrder());
        tell("pointsByPairs()", x -> x.pointsByPairs());
        for (int place = -1; place <= 8; place++) {
            int each = place;
            tell("nearest " + place, x -> x.nearest(each));
        }
        for (int side = -1; side <= 2; side++) {
            int each = side;
            tell("aliveOf " + side, x -> x.aliveOf(each));
            tell("pointsOf " + side, x -> x.pointsOf(each));
        }
        tell("gap()", x -> x.gap());
        tell("spread()", x -> x.spread());
        tell("curveBySteps", x -> x.curveBySteps(2, 40, -1, 40));
        tell("curveByFormula", x -> x.curveByFormula(2, 40, -1, 40));
    }

    private void tellWould() {
        tell("wouldCount(0, 70, 0)", x -> x.wouldCount(0, 70, 0));
        tell("wouldCount(1, 30, 0)", x -> x.wouldCount(1, 30, 0));
        tell("wouldStrike(0, 70, 0)", x -> x.wouldStrike(0, 70, 0));
        tell("wouldStrike(-3, 64, 1)", x -> x.wouldStrike(-3, 64, 1));
        tell("bestWeight(0, 0)", x -> x.bestWeight(0, 0));
    }

    private void tellMatch() {
        tell("needed()", x -> x.needed());
        tell("isOver()", x -> x.isOver());
        tell("ends()", x -> x.ends());
        tell("burntEnds()", x -> x.burntEnds());
        for (int end = -1; end <= 12; end++) {
            int each = end;
            tell("pointsOfEnd " + end, x -> x.pointsOfEnd(each));
        }
        tell("keptEnds()", x -> x.keptEnds());
        for (int points = -9; points <= 9; points++) {
            int each = points;
            tell("endsWith " + points, x -> x.endsWith(each));
        }
        tell("streak()", x -> x.streak());
        tell("putBack()", x -> x.putBack());
        tell("played()", x -> x.played());
        tell("touchers()", x -> x.touchers());
        tell("first()", x -> x.first());
        tell("wind()", x -> x.wind());
        tell("meanPoints()", x -> x.meanPoints());
    }
}
