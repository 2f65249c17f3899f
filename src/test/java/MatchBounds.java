import java.util.function.Supplier;

/** The boundary cases of the promises 5 to 9 and 48 to 62: the match, and its accounts. */
final class MatchBounds {
    private static final String OUT = Situations.OUT;
    // with one bowl each, on an object whose side 0 plays first: 1, -1 and 0 points
    private static final String NOBODY = "j30;" + OUT + OUT + "c";

    private MatchBounds() {
    }

    static void run() {
        beginRange();
        beginTakesAway();
        changeBowls();
        changeWind();
        turns();
        pointsOf();
        neededPoints();
        overBySideOne();
        atFirst21();
        endsAndBurnt();
        keptEnds();
        endsWith();
        streak();
        streakOfKept();
        putBack();
        playedAndTouchers();
        meanPoints();
    }

    /** An end in which this side scores that many of 1 to 4 points, whichever side plays first. */
    private static void win(WombatBowls x, int side, int points) {
        x.changeBowls(points);
        x.roll(50);
        for (int bowl = 0; bowl < 2 * points; bowl++) {
            if (x.turn() == side) {
                x.play(bowl / 2 - 1, 20, 0);
            } else {
                x.play(9, 70, 3);
            }
        }
        Check.due("count() of an end", x.count(), points);
    }

    private static void nobody(WombatBowls x) {
        x.changeBowls(1);
        Check.moves(x, NOBODY);
    }

    private static void beginRange() {
        Check.sentence(5, "points: 1 to 50");
        Check.sentence(5, "Throws IllegalArgumentException if points is out of range");
        Check.range("begin", Situations::open, 1, 50, Check.ARGUMENT, (x, points) -> x.begin(points));
        Check.range("begin", Situations::over, 1, 50, Check.ARGUMENT, (x, points) -> x.begin(points));
        Check.sentence(5, "Returns the points that were needed before.");
        WombatBowls x = new WombatBowls();
        Check.due("begin(50)", x.begin(50), 21);
        Check.due("begin(50) again", x.begin(50), 50);
        Check.due("begin(1)", x.begin(1), 50);
        Check.due("begin(2)", x.begin(2), 1);
        Check.due("needed()", x.needed(), 2);
    }

    private static void beginTakesAway() {
        Check.sentence(5, "Begins another match, with the points that are needed to win it; the jack and bowls are taken away;"
            + " the wind, how many bowls sides have, and both rules that are turned, stay. Undoable.");
        // all accounts are above 0: a burnt end, a jack that is put back, touchers, an end of each side
        Supplier<WombatBowls> make = () -> {
            WombatBowls x = new WombatBowls();
            win(x, 1, 2);
            x.changeBowls(4);
            Check.moves(x, Situations.BURNT + ";c");
            Check.moves(x, Situations.BURNT);
            x.turnBack();
            Check.moves(x, "b0,15,0;c");
            x.changeWind(-4);
            x.changeBowls(2);
            x.turnTwice();
            win(x, 1, 3);
            x.changeBowls(2);
            Check.moves(x, "j30;b4,30,0;b5,29,0");
            return x;
        };
        WombatBowls before = make.get();
        int[] above = {before.ends(), before.burntEnds(), before.keptEnds(), before.putBack(), before.played(),
            before.touchers(), before.first(), before.streak(), before.bowls(), before.pointsOf(0), before.pointsOf(1)};
        for (int index = 0; index < above.length; index++) {
            Check.due("the account " + index + " is above 0", above[index] > 0, true);
        }
        WombatBowls x = make.get();
        Check.due("begin(9)", x.begin(9), 21);
        WombatBowls other = new WombatBowls();
        other.changeWind(-4);
        other.changeBowls(2);
        other.turnBack();
        other.turnTwice();
        for (int call = 0; call < 3; call++) {
            other.begin(9);
        }
        Check.due("savedStates()", x.savedStates(), 6);
        // another match is like one of a new object with the same wind, bowls and rules
        Check.due("digest()", x.digest(), other.digest());
        Check.due("turnBack(), it was on", x.turnBack(), false);
        Check.due("turnTwice(), it was on", x.turnTwice(), false);
        Check.due("wind()", x.wind(), -4);
        Check.due("bowlsOfSide()", x.bowlsOfSide(), 2);
        Check.due("isJackThere()", x.isJackThere(), false);
        Check.due("bowls()", x.bowls(), 0);
        int[] accounts = {x.ends(), x.burntEnds(), x.keptEnds(), x.putBack(), x.played(), x.touchers(), x.first(), x.streak(),
            x.bowls(), x.pointsOf(0), x.pointsOf(1)};
        for (int index = 0; index < accounts.length; index++) {
            Check.due("the account " + index + " of another match", accounts[index], 0);
        }
        Check.due("meanPoints()", x.meanPoints(), 0.0);
        Check.thrown("pointsOfEnd(0)", x, Check.INDEX, () -> x.pointsOfEnd(0));
        for (int points = -8; points <= 8; points++) {
            Check.due("endsWith " + points, x.endsWith(points), 0);
        }
        nobody(x);
        Check.due("ends() of the other match", x.ends(), 1);
        Check.due("keptEnds() of the other match", x.keptEnds(), 1);
        Check.due("pointsOfEnd(0) of the other match", x.pointsOfEnd(0), 0);
        Check.due("streak() of the other match", x.streak(), 0);
        Check.undoable("begin", make, false, y -> y.begin(21));
    }

    private static void changeBowls() {
        Check.sentence(6, "bowls: 1 to 4");
        Check.sentence(6, "Throws IllegalArgumentException if bowls is out of range");
        Check.range("changeBowls", Situations::fresh, 1, 4, Check.ARGUMENT, (x, bowls) -> x.changeBowls(bowls));
        Check.range("changeBowls", Situations::over, 1, 4, Check.ARGUMENT, (x, bowls) -> x.changeBowls(bowls));
        Check.sentence(6, "Throws IllegalStateException if the jack lies");
        Check.refused("changeBowls, a jack without bowls", Situations::rolled, Check.STATE, x -> x.changeBowls(2));
        Check.refused("changeBowls, to the same", Situations::rolled, Check.STATE, x -> x.changeBowls(4));
        Check.refused("changeBowls, all are played", Situations::played, Check.STATE, x -> x.changeBowls(1));
        Check.refused("changeBowls, the ditch", Situations::touched, Check.STATE, x -> x.changeBowls(1));
        Check.refused("changeBowls, burnt", Situations::burnt, Check.STATE, x -> x.changeBowls(1));
        Check.refused("changeBowls, wrong and the jack lies", Situations::rolled, Check.ARGUMENT, x -> x.changeBowls(5));
        Check.refused("changeBowls, wrong and the jack lies", Situations::rolled, Check.ARGUMENT, x -> x.changeBowls(0));
        Check.undoable("changeBowls, the end is counted", () -> {
            WombatBowls x = Situations.played();
            x.count();
            return x;
        }, false, x -> x.changeBowls(4));
        Check.sentence(6, "Returns the bowls before.");
        WombatBowls x = new WombatBowls();
        Check.due("changeBowls(1)", x.changeBowls(1), 4);
        Check.due("changeBowls(4)", x.changeBowls(4), 1);
        Check.due("changeBowls(4) again", x.changeBowls(4), 4);
        Check.due("bowlsOfSide()", x.bowlsOfSide(), 4);
    }

    private static void changeWind() {
        Check.sentence(7, "wind: -5 to 5");
        Check.sentence(7, "Throws IllegalArgumentException if wind is out of range");
        Check.range("changeWind", Situations::fresh, -5, 5, Check.ARGUMENT, (x, wind) -> x.changeWind(wind));
        Check.range("changeWind", Situations::burnt, -5, 5, Check.ARGUMENT, (x, wind) -> x.changeWind(wind));
        Check.sentence(7, "Returns the wind before.");
        WombatBowls x = new WombatBowls();
        Check.due("changeWind(-5)", x.changeWind(-5), 0);
        Check.due("changeWind(5)", x.changeWind(5), -5);
        Check.due("changeWind(0)", x.changeWind(0), 5);
        Check.sentence(61, "Returns -5 to 5.");
        for (int wind = -5; wind <= 5; wind++) {
            x.changeWind(wind);
            Check.due("wind()", x.wind(), wind);
        }
        x.roll(30);
        x.changeWind(-5);
        Check.due("wind() in an end", x.wind(), -5);
        Check.due("what lies is not blown", x.jackColumn(), 10);
    }

    private static void turns() {
        Check.sentence(8, "Returns true if it is put back then.");
        WombatBowls x = new WombatBowls();
        for (int times = 0; times < 4; times++) {
            Check.due("turnBack()", x.turnBack(), times % 2 == 0);
        }
        Check.sentence(9, "Returns true if they count twice then.");
        for (int times = 0; times < 4; times++) {
            Check.due("turnTwice()", x.turnTwice(), times % 2 == 0);
        }
        Check.sentence(9, "Lets touchers count twice, or once, if they count twice. Undoable.");
        x.roll(30);
        x.play(0, 30, 0);
        Check.due("pointsByOrder(), once", x.pointsByOrder(), 1);
        x.turnTwice();
        Check.due("pointsByOrder(), twice", x.pointsByOrder(), 2);
        Check.due("pointsByPairs(), twice", x.pointsByPairs(), 2);
        x.turnTwice();
        Check.due("pointsByPairs(), once", x.pointsByPairs(), 1);
        x.undo();
        Check.due("pointsByPairs(), undone", x.pointsByPairs(), 2);
        x.undo();
        Check.due("pointsByPairs(), undone twice", x.pointsByPairs(), 1);
    }

    private static void pointsOf() {
        Check.sentence(48, "side: 0 or 1");
        Check.sentence(48, "Throws IndexOutOfBoundsException if there is no such side");
        Check.range("pointsOf", Situations::fresh, 0, 1, (x, side) -> x.pointsOf(side));
        Check.range("pointsOf", Situations::over, 0, 1, (x, side) -> x.pointsOf(side));
        Check.sentence(48, "Returns the points.");
        WombatBowls x = new WombatBowls();
        win(x, 0, 3);
        win(x, 1, 4);
        win(x, 0, 1);
        nobody(x);
        Check.due("pointsOf(0)", x.pointsOf(0), 4);
        Check.due("pointsOf(1)", x.pointsOf(1), 4);
    }

    private static void neededPoints() {
        Check.sentence(49, "Returns 1 to 50.");
        WombatBowls x = new WombatBowls();
        Check.due("needed(), at first", x.needed(), 21);
        x.begin(1);
        Check.due("needed()", x.needed(), 1);
        x.begin(50);
        Check.due("needed()", x.needed(), 50);
        Check.sentence(50, "Tells whether the match is over: a side has as many points as are needed.");
        Check.sentence(50, "Returns true if so.");
        // 49 of 50, 50 of 50, 52 of 50
        for (int end = 0; end < 12; end++) {
            win(x, 0, 4);
            Check.due("isOver(), " + x.pointsOf(0) + " of 50", x.isOver(), false);
        }
        win(x, 0, 1);
        Check.due("isOver(), 49 of 50", x.isOver(), false);
        win(x, 1, 4);
        Check.due("isOver(), both sides have 53", x.isOver(), false);
        win(x, 0, 1);
        Check.due("isOver(), 50 of 50", x.isOver(), true);
        Check.thrown("roll", x, Check.STATE, () -> x.roll(30));
        x.undo();
        Check.due("isOver(), undone", x.isOver(), false);
        x.begin(1);
        nobody(x);
        Check.due("isOver(), 0 of 1", x.isOver(), false);
        win(x, 1, 1);
        Check.due("isOver(), 1 of 1", x.isOver(), true);
    }

    private static void overBySideOne() {
        Check.sentence(0, "A match is over, when a side has as many points as are needed, at first 21.");
        for (int side = 0; side <= 1; side++) {
            WombatBowls x = new WombatBowls();
            x.begin(5);
            win(x, side, 4);
            Check.due("isOver(), 4 of 5", x.isOver(), false);
            x.keep(0);
            win(x, side, 1);
            Check.due("isOver(), 5 of 5", x.isOver(), true);
            Check.due("pointsOf()", x.pointsOf(side), 5);
            x.goBack(0);
            win(x, side, 4);
            Check.due("isOver(), 8 of 5", x.isOver(), true);
            Check.due("pointsOf()", x.pointsOf(side), 8);
            // 4 and 4 are not 5 of one side
            x.goBack(0);
            win(x, 1 - side, 4);
            Check.due("isOver(), 4 and 4 of 5", x.isOver(), false);
        }
    }

    private static void atFirst21() {
        Check.sentence(0, "at first 21");
        for (int side = 0; side <= 1; side++) {
            WombatBowls x = new WombatBowls();
            for (int end = 0; end < 5; end++) {
                win(x, side, 4);
            }
            Check.due("isOver(), 20", x.isOver(), false);
            win(x, side, 1);
            Check.due("isOver(), 21", x.isOver(), true);
            Check.thrown("roll", x, Check.STATE, () -> x.roll(30));
        }
    }

    private static void endsAndBurnt() {
        WombatBowls x = new WombatBowls();
        Check.sentence(51, "Returns how many ends were counted in the match, burnt ones too. Returns the ends.");
        Check.due("ends(), none", x.ends(), 0);
        Check.sentence(52, "Returns how many ends of the match were burnt. Returns the ends.");
        Check.due("burntEnds(), none", x.burntEnds(), 0);
        Check.moves(x, Situations.BURNT);
        Check.due("ends(), not counted yet", x.ends(), 0);
        Check.due("burntEnds(), not counted yet", x.burntEnds(), 0);
        x.count();
        Check.due("ends()", x.ends(), 1);
        Check.due("burntEnds()", x.burntEnds(), 1);
        Check.moves(x, "j50;b0,70,0;" + OUT + OUT + OUT + OUT + OUT + OUT + OUT + "c");
        Check.due("ends()", x.ends(), 2);
        Check.due("burntEnds(), the jack in the ditch, touched", x.burntEnds(), 1);
        nobody(x);
        Check.due("ends(), no side scored", x.ends(), 3);
        Check.due("burntEnds(), no side scored", x.burntEnds(), 1);
        x.changeBowls(4);
        Check.moves(x, Situations.BURNT_BY_LAST + ";c");
        Check.due("burntEnds(), by the last bowl", x.burntEnds(), 2);
        x.turnBack();
        Check.moves(x, Situations.BURNT_BY_LAST + ";c");
        Check.due("ends(), put back", x.ends(), 5);
        Check.due("burntEnds(), put back", x.burntEnds(), 2);
    }

    private static void keptEnds() {
        Check.sentence(54, "Returns 0 to 12.");
        WombatBowls x = new WombatBowls();
        x.begin(50);
        Check.due("keptEnds(), none", x.keptEnds(), 0);
        int[] points = {1, -2, 3, -4, 0, 1, -1, 2, -3, 4, 0, -2, 3, -1, 2};
        for (int end = 0; end < points.length; end++) {
            Check.sentence(53, "Throws IndexOutOfBoundsException if there is no such end");
            for (int wrong : new int[] {-1, Math.min(end, 12), Integer.MAX_VALUE}) {
                Check.thrown("pointsOfEnd " + wrong, x, Check.INDEX, () -> x.pointsOfEnd(wrong));
            }
            if (points[end] == 0) {
                nobody(x);
            } else {
                win(x, points[end] > 0 ? 0 : 1, Math.abs(points[end]));
            }
            Check.sentence(54, "Returns 0 to 12.");
            Check.due("keptEnds()", x.keptEnds(), Math.min(end + 1, 12));
            Check.due("ends()", x.ends(), end + 1);
            Check.sentence(53, "end: 0 for the first one that is kept");
            int dropped = Math.max(0, end - 11);
            Check.due("pointsOfEnd(0)", x.pointsOfEnd(0), points[dropped]);
            Check.due("the latest one", x.pointsOfEnd(end - dropped), points[end]);
        }
        Check.sentence(53, "Returns above 0 for the side 0, below 0 for the side 1, 0 if no side scored.");
        for (int end = 0; end < 12; end++) {
            Check.due("pointsOfEnd " + end, x.pointsOfEnd(end), points[end + 3]);
        }
        x.keep(0);
        WombatBowls burnt = new WombatBowls();
        Check.moves(burnt, Situations.BURNT + ";c");
        Check.due("pointsOfEnd(0), burnt", burnt.pointsOfEnd(0), 0);
        Check.due("keptEnds(), burnt", burnt.keptEnds(), 1);
        win(x, 0, 1);
        Check.due("pointsOfEnd(0)", x.pointsOfEnd(0), points[4]);
        x.undo();
        Check.due("pointsOfEnd(0), undone", x.pointsOfEnd(0), points[3]);
        Check.due("pointsOfEnd(11), undone", x.pointsOfEnd(11), 2);
        x.goBack(0);
        Check.due("pointsOfEnd(0), a snapshot", x.pointsOfEnd(0), points[3]);
        win(x, 1, 1);
        Check.due("pointsOfEnd(11)", x.pointsOfEnd(11), -1);
    }

    private static void endsWith() {
        Check.sentence(55, "points: -8 to 8, as by pointsOfEnd()");
        Check.sentence(55, "Throws IllegalArgumentException if points is out of range");
        Check.range("endsWith", Situations::fresh, -8, 8, Check.ARGUMENT, (x, points) -> x.endsWith(points));
        Check.range("endsWith", Situations::over, -8, 8, Check.ARGUMENT, (x, points) -> x.endsWith(points));
        Check.sentence(55, "Returns how many ends of the match, those that are not kept too.");
        WombatBowls x = new WombatBowls();
        Check.due("endsWith(0), no ends", x.endsWith(0), 0);
        x.begin(50);
        for (int end = 0; end < 13; end++) {
            nobody(x);
            Check.due("endsWith(0)", x.endsWith(0), end + 1);
        }
        win(x, 0, 3);
        win(x, 1, 3);
        Check.due("endsWith(0), two are dropped", x.endsWith(0), 13);
        Check.due("endsWith(3)", x.endsWith(3), 1);
        Check.due("endsWith(-3)", x.endsWith(-3), 1);
        Check.due("endsWith(2)", x.endsWith(2), 0);
        Check.due("endsWith(4)", x.endsWith(4), 0);
        x.changeBowls(4);
        Check.moves(x, Situations.BURNT + ";c");
        Check.due("endsWith(0), a burnt end", x.endsWith(0), 14);
        // the greatest and the least: four touchers that count twice, of both sides
        String[] four = {"b0,54,0;", "b-8,52,3;", "b8,64,-3;", "b-3,58,1;"};
        x.begin(50);
        x.turnTwice();
        for (int side = 0; side <= 1; side++) {
            StringBuilder moves = new StringBuilder("j50;");
            for (String one : four) {
                moves.append(x.first() == side ? one + OUT : OUT + one);
            }
            Check.moves(x, moves + "c");
            Check.due("endsWith(8)", x.endsWith(8), 1);
            Check.due("endsWith(-8)", x.endsWith(-8), side);
            Check.due("pointsOfEnd()", x.pointsOfEnd(side), side == 0 ? 8 : -8);
        }
        Check.due("endsWith(7)", x.endsWith(7), 0);
        Check.due("endsWith(-7)", x.endsWith(-7), 0);
    }

    private static void streak() {
        Check.sentence(56, "Returns the ends of those that are kept, 0 if no side scored in the latest one, or there is none.");
        WombatBowls x = new WombatBowls();
        Check.due("streak(), no end", x.streak(), 0);
        nobody(x);
        Check.due("streak(), no side", x.streak(), 0);
        win(x, 1, 1);
        Check.due("streak(), one", x.streak(), 1);
        win(x, 1, 3);
        Check.due("streak(), two of the side 1, with other points", x.streak(), 2);
        win(x, 0, 3);
        Check.due("streak(), one of the side 0", x.streak(), 1);
        win(x, 0, 1);
        win(x, 0, 2);
        Check.due("streak(), three", x.streak(), 3);
        nobody(x);
        Check.due("streak(), behind an end of no side", x.streak(), 0);
        win(x, 0, 1);
        Check.due("streak(), anew", x.streak(), 1);
        x.changeBowls(4);
        Check.moves(x, Situations.BURNT + ";c");
        Check.due("streak(), a burnt end", x.streak(), 0);
    }

    private static void streakOfKept() {
        Check.sentence(56, "Returns how many of the latest ends, one behind the other, were won by the same side.");
        for (int side = 0; side <= 1; side++) {
            WombatBowls x = new WombatBowls();
            x.begin(50);
            win(x, 1 - side, 1);
            for (int end = 1; end <= 14; end++) {
                win(x, side, 1);
                Check.due("streak(), of 12 that are kept", x.streak(), Math.min(end, 12));
            }
            win(x, 1 - side, 1);
            Check.due("streak(), the other side", x.streak(), 1);
        }
    }

    private static void putBack() {
        Check.sentence(57, "Returns how often the jack was put back in the match. Returns how often.");
        WombatBowls x = new WombatBowls();
        Check.due("putBack(), never", x.putBack(), 0);
        Check.moves(x, Situations.BURNT);
        Check.due("putBack(), burnt", x.putBack(), 0);
        x.turnBack();
        Check.due("putBack(), once by turnBack()", x.putBack(), 1);
        Check.moves(x, "b9,70,3;c");
        Check.moves(x, Situations.TO_BURN);
        Check.due("putBack(), once", x.putBack(), 1);
        x.play(-3, 64, 1);
        Check.due("putBack(), twice", x.putBack(), 2);
        Check.moves(x, "b9,70,3;c");
        Check.due("putBack(), of the match", x.putBack(), 2);
    }

    private static void playedAndTouchers() {
        Check.sentence(58, "Returns how many bowls were played in the match. Returns the bowls.");
        WombatBowls x = new WombatBowls();
        Check.due("played(), none", x.played(), 0);
        x.roll(30);
        Check.due("played(), a jack without bowls", x.played(), 0);
        for (int bowl = 1; bowl <= 8; bowl++) {
            x.play(9, 70, 3);
            Check.due("played(), dead ones too", x.played(), bowl);
        }
        x.count();
        Check.due("played(), counted", x.played(), 8);
        Check.moves(x, Situations.BURNT + ";c");
        Check.due("played(), of a burnt end too", x.played(), 15);
    }

    private static void meanPoints() {
        Check.sentence(59, "Returns how many of them were touchers. Returns the bowls.");
        WombatBowls x = new WombatBowls();
        Check.due("touchers(), none", x.touchers(), 0);
        x.changeBowls(1);
        x.roll(30);
        x.play(0, 29, 0);
        Check.due("touchers(), one step ahead", x.touchers(), 0);
        x.undo();
        x.play(0, 30, 0);
        Check.due("touchers(), one", x.touchers(), 1);
        x.play(0, 40, 0);
        Check.due("touchers(), it struck the toucher", x.touchers(), 1);
        x.count();
        Check.due("touchers(), of the match", x.touchers(), 1);
        Check.sentence(60, "Returns 0 or 1.");
        Check.due("first()", new WombatBowls().first(), 0);
        WombatBowls one = new WombatBowls();
        win(one, 1, 1);
        Check.due("first(), the side 1 has scored", one.first(), 1);
        one.roll(30);
        Check.due("first(), in this end", one.first(), 1);
        Check.sentence(62, "Returns the points of both sides as a double, divided by the ends of the match; 0.0 without ends.");
        WombatBowls y = new WombatBowls();
        Check.due("meanPoints(), without ends", y.meanPoints(), 0.0);
        Check.due("its sign is that of 0.0", 1.0 / y.meanPoints(), Double.POSITIVE_INFINITY);
        nobody(y);
        Check.due("meanPoints(), no side scored", y.meanPoints(), 0.0);
        win(y, 0, 1);
        Check.due("meanPoints(), 1 of 2", y.meanPoints(), 0.5);
        win(y, 1, 1);
        Check.due("meanPoints(), 2 of 3, of both sides", y.meanPoints(), 2.0 / 3.0);
        y.changeBowls(4);
        Check.moves(y, Situations.BURNT);
        WombatBowls three = new WombatBowls();
        win(three, 1, 3);
        Check.due("meanPoints(), one end", three.meanPoints(), 3.0);
        Check.due("meanPoints(), not counted yet", y.meanPoints(), 2.0 / 3.0);
        y.count();
        Check.due("meanPoints(), a burnt end too", y.meanPoints(), 0.5);
        for (int end = 5; end <= 13; end++) {
            nobody(y);
        }
        Check.due("meanPoints(), of 13 ends", y.meanPoints(), 2.0 / 13.0);
    }
}
