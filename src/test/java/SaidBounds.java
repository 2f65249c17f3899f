/**
 * What the first line of a promise says of it, where no other part names it: all of one match whose places, distances
 * and points were worked out by hand from 'Ways' and 'Ends' of the document.
 */
final class SaidBounds {
    private static final String OUT = Situations.OUT;
    /** The fourth bowl strikes the first one, which strikes the jack; the fifth is out; the sixth touches the jack. */
    private static final String SIX = "j30;b0,25,0;b5,20,0;b-3,24,1;b0,70,0;b9,70,3;b-2,38,1";
    private static final int JACK_ROW = 38;
    private static final int DEAD = 4;
    private static final int[] ROWS = {29, 20, 24, 24, -1, 37};
    private static final int[] COLUMNS = {10, 20, 6, 10, -1, 10};
    private static final int[] DISTANCES = {81, 424, 212, 196, -1, 1};
    private static final int[] AIMS = {0, 5, -3, 0, 9, -2};
    private static final int[] WEIGHTS = {25, 20, 24, 70, 70, 38};
    private static final int[] BIASES = {0, 0, 1, 0, 3, 1};

    private SaidBounds() {
    }

    static void run() {
        undoables();
        buffer();
        end();
        bowlsOfTheEnd();
        places();
        counting();
        wouldBe();
        accounts();
        whatStays();
        lastCalls();
    }

    private static void undoables() {
        Check.sentence(3, "The side whose turn it is plays a bowl. Undoable.");
        WombatBowls x = Check.after("j30");
        for (int bowl = 0; bowl < 8; bowl++) {
            int side = x.turn();
            Check.due("turn()", side, bowl % 2);
            x.play(bowl, 20, 0);
            Check.due("sideOf " + bowl, x.sideOf(bowl), side);
        }
        Check.undoable("play", () -> Check.after(SIX), false, y -> y.play(0, 30, 0));
        Check.sentence(6, "Changes how many bowls each side has in an end. Undoable.");
        WombatBowls two = new WombatBowls();
        two.changeBowls(2);
        Check.moves(two, "j30;" + OUT + OUT + OUT + OUT + "c");
        Check.due("played()", two.played(), 4);
        Check.undoable("changeBowls", WombatBowls::new, false, y -> y.changeBowls(2));
        Check.sentence(7, "Lets the wind blow. Undoable.");
        WombatBowls wind = new WombatBowls();
        wind.changeWind(3);
        wind.roll(30);
        wind.play(-1, 20, 0);
        // (1050 + 10 * 20 * (-1 + 3)) / 100
        Check.due("columnOf(0), blown", wind.columnOf(0), 14);
        Check.undoable("changeWind", () -> Check.after(SIX), false, y -> y.changeWind(3));
    }

    private static void buffer() {
        WombatBowls x = new WombatBowls();
        Check.sentence(10, "Appends a character to the buffer.");
        Check.append(x, "w4;w-");
        x.append('3');
        Check.due("playAll() of what is appended", x.playAll(), 0);
        Check.due("wind(), the last one", x.wind(), -3);
        Check.sentence(11, "Clears the buffer.");
        Check.append(x, "w5");
        x.clearBuffer();
        Check.thrown("playAll(), cleared", x, Check.ARGUMENT, () -> x.playAll());
        Check.due("append, cleared", x.append('c'), 1);
    }

    private static void end() {
        WombatBowls x = new WombatBowls();
        Check.sentence(17, "Returns how many states are saved.");
        Check.due("savedStates(), none", x.savedStates(), 0);
        Check.moves(x, SIX);
        Check.due("savedStates(), seven calls", x.savedStates(), 6);
        Check.sentence(19, "Returns the row of the jack.");
        Check.due("jackRow(), struck from the row 30 on by 8 steps", x.jackRow(), JACK_ROW);
        Check.sentence(20, "Returns the column of the jack.");
        Check.due("jackColumn()", x.jackColumn(), 10);
        Check.sentence(21, "Tells whether the end is burnt.");
        Check.due("isBurnt()", x.isBurnt(), false);
        Check.due("isBurnt(), so it is", Check.after(Situations.BURNT).isBurnt(), true);
        Check.sentence(23, "Returns how many bowls each side has in an end.");
        Check.due("bowlsOfSide()", x.bowlsOfSide(), 4);
        Check.sentence(24, "Returns the side that plays next.");
        Check.due("turn(), six are played", x.turn(), 0);
    }

    private static void bowlsOfTheEnd() {
        WombatBowls x = Check.after(SIX);
        Check.due("bowls()", x.bowls(), 6);
        for (int bowl = 0; bowl < 6; bowl++) {
            int each = bowl;
            Check.sentence(25, "Returns the side of a bowl.");
            Check.due("sideOf " + bowl, x.sideOf(bowl), bowl % 2);
            Check.sentence(26, "Returns what became of a bowl.");
            Check.due("stateOf " + bowl, x.stateOf(bowl), bowl == DEAD ? 2 : 0);
            Check.sentence(29, "Tells whether a bowl touched the jack, as it was played.");
            Check.due("isToucher " + bowl, x.isToucher(bowl), bowl == 5);
            if (bowl != DEAD) {
                Check.sentence(27, "Returns the row of a bowl.");
                Check.due("rowOf " + bowl, x.rowOf(bowl), ROWS[bowl]);
                Check.sentence(28, "Returns the column of a bowl.");
                Check.due("columnOf " + bowl, x.columnOf(bowl), COLUMNS[bowl]);
                Check.sentence(30, "Returns the square of the distance of a bowl to the jack.");
                Check.due("distanceOf " + bowl, x.distanceOf(bowl), DISTANCES[bowl]);
            } else {
                Check.thrown("rowOf " + bowl, x, Check.STATE, () -> x.rowOf(each));
                Check.thrown("columnOf " + bowl, x, Check.STATE, () -> x.columnOf(each));
                Check.thrown("distanceOf " + bowl, x, Check.STATE, () -> x.distanceOf(each));
            }
            Check.sentence(32, "Returns the aim with which a bowl was played.");
            Check.due("aimOf " + bowl, x.aimOf(bowl), AIMS[bowl]);
            Check.sentence(33, "Returns the weight with which a bowl was played.");
            Check.due("weightOf " + bowl, x.weightOf(bowl), WEIGHTS[bowl]);
            Check.sentence(34, "Returns the bias with which a bowl was played.");
            Check.due("biasOf " + bowl, x.biasOf(bowl), BIASES[bowl]);
        }
        // a wind that blows later changes nothing of how a bowl was played, or where it lies
        x.changeWind(5);
        Check.due("aimOf(5), the wind blows", x.aimOf(5), -2);
        Check.due("columnOf(5), the wind blows", x.columnOf(5), 10);
    }

    /** Every place of the green: five of them have a bowl. */
    private static void places() {
        Check.sentence(31, "Returns the bowl at a place of the green.");
        int found = 0;
        for (int row = 0; row < 60; row++) {
            // an object is promised for 512 calls
            WombatBowls x = Check.after(SIX);
            for (int column = 0; column < 21; column++) {
                int due = -1;
                for (int bowl = 0; bowl < 6; bowl++) {
                    due = ROWS[bowl] == row && COLUMNS[bowl] == column ? bowl : due;
                }
                int there = column;
                int here = row;
                if (due == -1) {
                    Check.due("bowlAt " + row + " " + column, Check.answer(y -> y.bowlAt(here, there), x), Check.STATE);
                } else {
                    found++;
                    Check.due("bowlAt " + row + " " + column, x.bowlAt(row, column), due);
                }
            }
        }
        Check.due("bowls on the green", found, 5);
    }

    private static void counting() {
        WombatBowls x = Check.after(SIX);
        Check.sentence(35, "Tells the side that would score now.");
        Check.due("leader()", x.leader(), 1);
        Check.due("pointsByOrder(), 1 is nearer than 81, 196 is not", x.pointsByOrder(), 1);
        Check.due("pointsByPairs()", x.pointsByPairs(), 1);
        Check.sentence(38, "Returns a bowl by its distance.");
        int[] order = {5, 0, 3, 2, 1};
        for (int place = 0; place < 5; place++) {
            Check.due("nearest " + place, x.nearest(place), order[place]);
        }
        Check.sentence(39, "Returns how many bowls of a side are not dead.");
        Check.due("aliveOf(0), one is dead", x.aliveOf(0), 2);
        Check.due("aliveOf(1)", x.aliveOf(1), 3);
        Check.sentence(40, "Tells by how much the nearest bowls of both sides differ.");
        Check.due("gap(), 81 and 1", x.gap(), 80);
        Check.sentence(41, "Returns the square of the distance of the two bowls that are farthest apart.");
        // the rows 20 and 37, the columns 20 and 10
        Check.due("spread()", x.spread(), 389);
    }

    private static void wouldBe() {
        WombatBowls x = Check.after(SIX);
        Check.sentence(44, "Tells which points would be counted, if a bowl was played, and the end counted behind it.");
        // to the row 37 and the column 9, then to 38 and 9, 39 and 10, 40 and 11
        int[] points = {-1, 0, 0, -1};
        for (int weight = 37; weight <= 40; weight++) {
            Check.due("wouldCount -6 " + weight + " 3", x.wouldCount(-6, weight, 3), points[weight - 37]);
        }
        Check.sentence(45, "Finds the best weight for an aim and a bias.");
        Check.due("bestWeight(-6, 3)", x.bestWeight(-6, 3), 38);
        Check.sentence(46, "Tells how many things a bowl would strike, and they would strike, all together.");
        // the bowls 3, 0 and 5 lie in the column 10: from the weight 24, 34 and 66 on
        int[][] strikes = {{23, 0}, {24, 1}, {33, 1}, {34, 2}, {65, 2}, {66, 3}, {70, 3}};
        for (int[] one : strikes) {
            Check.due("wouldStrike 0 " + one[0] + " 0", x.wouldStrike(0, one[0], 0), one[1]);
        }
        Check.sentence(47, "Finds the best way to play, with an aim from -2 to 2 and a bias from -1 to 1.");
        Check.due("bestPlay(), a jack alone: the nearest ones are all worth 1", Check.after("j30").bestPlay(), 15);
    }

    private static void accounts() {
        WombatBowls x = Check.after(SIX + ";" + OUT + OUT + "c");
        Check.sentence(48, "Returns the points of a side in the match.");
        Check.due("pointsOf(0)", x.pointsOf(0), 0);
        Check.due("pointsOf(1)", x.pointsOf(1), 1);
        Check.sentence(60, "Returns the side that plays first in the next end, or did in this one.");
        Check.due("first(), in the next end", x.first(), 1);
        x.changeBowls(2);
        Check.due("roll(40)", x.roll(40), 1);
        Check.due("first(), in this end", x.first(), 1);
        // distances 1 and 17 of the side 1
        Check.moves(x, "b0,39,0;" + OUT + "b1,39,0;" + OUT);
        Check.due("first(), all are played", x.first(), 1);
        Check.due("count()", x.count(), 2);
        Check.due("pointsOf(1), of two ends", x.pointsOf(1), 3);
        Check.sentence(49, "Returns the points that are needed to win the match.");
        Check.due("needed()", x.needed(), 21);
        Check.sentence(53, "Returns the points of an end of the match.");
        Check.due("pointsOfEnd(0)", x.pointsOfEnd(0), -1);
        Check.due("pointsOfEnd(1)", x.pointsOfEnd(1), -2);
        Check.sentence(54, "Returns how many ends are kept: the latest ones.");
        Check.due("keptEnds()", x.keptEnds(), 2);
        Check.sentence(55, "Returns how often the points of an end of the match were so many, as told by the kind of each end.");
        for (int points = -8; points <= 8; points++) {
            Check.due("endsWith " + points, x.endsWith(points), points == -1 || points == -2 ? 1 : 0);
        }
        Check.sentence(61, "Returns the wind.");
        Check.due("wind(), none", x.wind(), 0);
        x.changeWind(-2);
        Check.due("wind()", x.wind(), -2);
        Check.sentence(62, "Returns the mean of the points of ends.");
        Check.due("meanPoints(), 3 of 2 ends", x.meanPoints(), 1.5);
        Check.due("played()", x.played(), 12);
        Check.due("touchers()", x.touchers(), 1);
    }

    /** Nothing that is only asked changes anything: two objects are alike, though one was asked for all. */
    private static void whatStays() {
        for (String kind : new String[] {"the end as it is; nothing is changed", "counting; nothing is changed",
            "curves; nothing is changed", "what would be; nothing is changed", "accounts; nothing is changed"}) {
            Check.sentence(0, kind);
        }
        WombatBowls asked = Check.after(SIX);
        long before = asked.digest();
        Answers.all(asked);
        Check.due("digest(), all is asked", asked.digest(), before);
        Check.same("all is asked", asked, Check.after(SIX));
    }

    /** The 512th call still answers as it should, with as many ends behind it as go into an object. */
    private static void lastCalls() {
        Check.part("an object is used for at most 512 calls");
        WombatBowls x = new WombatBowls();
        x.begin(50);
        int calls = 1;
        for (int end = 0; end < 46; end++) {
            x.roll(20 + end % 31);
            for (int bowl = 0; bowl < 8; bowl++) {
                x.play(9, 70, 3);
            }
            x.count();
            x.keep(end % 2);
            calls += 11;
        }
        Check.due("calls", calls, 507);
        Check.due("ends()", x.ends(), 46);
        Check.due("endsWith(0)", x.endsWith(0), 46);
        Check.due("played()", x.played(), 368);
        x.goBack(0);
        Check.due("ends(), the 512th call", x.ends(), 45);
    }
}
