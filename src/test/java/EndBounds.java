import java.util.function.Supplier;

/** The boundary cases of 'Ends' in 'Terms' and of the promises 1 to 4: an end begins, goes on, is burnt, is counted. */
final class EndBounds {
    private static final String OUT = Situations.OUT;

    private EndBounds() {
    }

    static void run() {
        newObject();
        rollRange();
        rollState();
        playRange();
        playState();
        byTurns();
        firstSide();
        burnt();
        putBack();
        putBackRows();
        turnBackInBurntEnd();
        scores();
        alike();
        countState();
        countedPoints();
    }

    private static void newObject() {
        Check.sentence(1, "Creates a match without ends, a jack that is to be rolled, empty slots and an empty buffer.");
        WombatBowls x = new WombatBowls();
        Check.due("ends()", x.ends(), 0);
        Check.due("keptEnds()", x.keptEnds(), 0);
        Check.due("burntEnds()", x.burntEnds(), 0);
        Check.due("played()", x.played(), 0);
        Check.due("pointsOf(0)", x.pointsOf(0), 0);
        Check.due("pointsOf(1)", x.pointsOf(1), 0);
        Check.due("isJackThere()", x.isJackThere(), false);
        Check.due("firstError()", x.firstError(), 0);
        Check.due("clearBuffer()", x.clearBuffer(), 0);
        Check.due("append(33), the first character", x.append(33), 1);
        Supplier<WombatBowls> fresh = WombatBowls::new;
        Check.refused("goBack(0)", fresh, Check.STATE, y -> nothing(() -> y.goBack(0)));
        Check.refused("goBack(1)", fresh, Check.STATE, y -> nothing(() -> y.goBack(1)));
        Check.refused("undo()", fresh, Check.STATE, y -> nothing(y::undo));
        Check.refused("playAll()", fresh, Check.ARGUMENT, y -> y.playAll());
        Check.refused("play(0, 30, 0)", fresh, Check.STATE, y -> y.play(0, 30, 0));
        Check.refused("count()", fresh, Check.STATE, y -> y.count());
        Check.undoable("roll(20)", fresh, false, y -> y.roll(20));
    }

    private static Object nothing(Runnable call) {
        call.run();
        return "nothing thrown";
    }

    private static void rollRange() {
        Check.sentence(0, "The jack is rolled to the column 10 of a row.");
        Check.sentence(2, "length: 20 to 50: its row");
        for (int length = 20; length <= 50; length++) {
            WombatBowls x = new WombatBowls();
            Check.due("roll", x.roll(length), 0);
            Check.due("jackRow()", x.jackRow(), length);
            Check.due("jackColumn()", x.jackColumn(), 10);
        }
        Check.sentence(2, "Throws IllegalArgumentException if length is out of range");
        Check.range("roll", Situations::fresh, 20, 50, Check.ARGUMENT, (x, length) -> x.roll(length));
        Check.sentence(2, "The jack is rolled; the first side plays next. Undoable.");
        WombatBowls y = Check.after("j33");
        Check.due("turn()", y.turn(), 0);
        Check.due("bowls()", y.bowls(), 0);
        Check.due("savedStates()", y.savedStates(), 1);
        Check.sentence(2, "Returns the side that plays next.");
        WombatBowls x = new WombatBowls();
        x.changeBowls(1);
        Check.due("roll(30) of the first end", x.roll(30), 0);
        Check.moves(x, OUT + "b0,29,0;c");
        Check.due("roll(30) behind a point of the side 1", x.roll(30), 1);
        Check.due("turn()", x.turn(), 1);
        Check.moves(x, OUT + "b0,29,0;c");
        Check.due("roll(30) behind a point of the side 0", x.roll(30), 0);
    }

    private static void rollState() {
        Check.sentence(2, "Throws IllegalStateException if the match is over, or the jack lies on the green or in the ditch");
        Check.refused("roll, the match is over", Situations::over, Check.STATE, x -> x.roll(30));
        Check.refused("roll, a jack without bowls", Situations::rolled, Check.STATE, x -> x.roll(30));
        Check.refused("roll, all bowls are played", Situations::played, Check.STATE, x -> x.roll(30));
        Check.refused("roll, a burnt end", Situations::burnt, Check.STATE, x -> x.roll(30));
        Check.refused("roll, the jack is in the ditch", Situations::touched, Check.STATE, x -> x.roll(30));
        Check.refused("roll, the jack is put back", Situations::putBack, Check.STATE, x -> x.roll(30));
        Check.undoable("roll, the end is counted", () -> {
            WombatBowls x = Situations.played();
            x.count();
            return x;
        }, false, x -> x.roll(30));
        Check.undoable("roll, the burnt end is counted", () -> {
            WombatBowls x = Situations.burnt();
            x.count();
            return x;
        }, false, x -> x.roll(30));
        Check.undoable("roll, one point less than is needed", () -> {
            WombatBowls x = new WombatBowls();
            x.begin(2);
            x.changeBowls(1);
            Check.moves(x, "j30;b0,29,0;" + OUT + "c");
            return x;
        }, false, x -> x.roll(30));
        Check.undoable("roll, another match", () -> {
            WombatBowls x = Situations.over();
            x.begin(1);
            return x;
        }, false, x -> x.roll(30));
    }

    private static void playRange() {
        Supplier<WombatBowls> rolled = Situations::rolled;
        Check.sentence(3, "aim: -9 to 9");
        Check.range("play, the aim", rolled, -9, 9, Check.ARGUMENT, (x, aim) -> x.play(aim, 30, 0));
        Check.sentence(3, "weight: 15 to 70");
        Check.range("play, the weight", rolled, 15, 70, Check.ARGUMENT, (x, weight) -> x.play(0, weight, 0));
        Check.sentence(3, "bias: -3 to 3");
        Check.range("play, the bias", rolled, -3, 3, Check.ARGUMENT, (x, bias) -> x.play(0, 30, bias));
        Check.sentence(3, "Throws IllegalArgumentException if aim, weight or bias is out of range");
        int[][] corners = {{-9, 15, -3}, {-9, 15, 3}, {-9, 70, -3}, {-9, 70, 3}, {9, 15, -3}, {9, 15, 3}, {9, 70, -3},
            {9, 70, 3}};
        for (int[] one : corners) {
            Check.undoable("play, all at the boundary", rolled, false, x -> x.play(one[0], one[1], one[2]));
        }
        Check.refused("play, all wrong", rolled, Check.ARGUMENT, x -> x.play(10, 14, 4));
        Check.refused("play, no jack and wrong", Situations::fresh, Check.ARGUMENT, x -> x.play(0, 14, 0));
        Check.refused("play, a burnt end and wrong", Situations::burnt, Check.ARGUMENT, x -> x.play(-10, 30, 0));
        Check.refused("play, all are played and wrong", Situations::played, Check.ARGUMENT, x -> x.play(0, 30, -4));
        Check.sentence(3, "Returns what becomes of the bowl in the end, as by stateOf().");
        WombatBowls x = Check.after("j30");
        Check.due("play(0, 20, 0)", x.play(0, 20, 0), 0);
        Check.due("play(9, 70, 3), out", x.play(9, 70, 3), 2);
        Check.due("play(3, 59, -1)", x.play(3, 59, -1), 0);
        Check.due("play(-3, 60, 1), the ditch or the bowl ahead of it", x.play(-3, 60, 1), x.stateOf(3));
        Check.due("play(1, 60, 0), the ditch", x.play(1, 60, 0), 2);
        Check.due("stateOf(4)", x.stateOf(4), 2);
    }

    private static void playState() {
        Check.sentence(3, "Throws IllegalStateException if the jack does not lie, all bowls of the end are played, or the end"
            + " is burnt");
        Check.refused("play, a new object", Situations::fresh, Check.STATE, x -> x.play(0, 30, 0));
        Check.refused("play, the match is over", Situations::over, Check.STATE, x -> x.play(0, 30, 0));
        Check.refused("play, the end is counted", () -> {
            WombatBowls x = Situations.played();
            x.count();
            return x;
        }, Check.STATE, x -> x.play(0, 30, 0));
        Check.undoable("play, a jack without bowls", Situations::rolled, false, x -> x.play(0, 30, 0));
        Check.undoable("play, one bowl to come", Situations::oneToCome, false, x -> x.play(0, 30, 0));
        Check.refused("play, all are played", Situations::played, Check.STATE, x -> x.play(0, 30, 0));
        Check.undoable("play, the jack is at 59", () -> Check.after(Situations.TO_BURN), false, x -> x.play(0, 30, 0));
        Check.refused("play, burnt, one to come", Situations::burnt, Check.STATE, x -> x.play(0, 30, 0));
        Check.refused("play, burnt, none to come", Situations::burntByLast, Check.STATE, x -> x.play(0, 30, 0));
        Check.undoable("play, the jack is in the ditch, touched", Situations::touched, false, x -> x.play(0, 30, 0));
        Check.undoable("play, the jack is put back", Situations::putBack, false, x -> x.play(0, 30, 0));
        Check.refused("play, put back, none to come", Situations::putBackByLast, Check.STATE, x -> x.play(0, 30, 0));
    }

    private static void byTurns() {
        Check.sentence(0, "The sides 0 and 1 play their bowls, by turns, 1 to 4 each, at first 4");
        for (int each = 1; each <= 4; each++) {
            WombatBowls x = new WombatBowls();
            if (each < 4) {
                x.changeBowls(each);
            }
            Check.due("bowlsOfSide()", x.bowlsOfSide(), each);
            x.roll(30);
            for (int bowl = 0; bowl < 2 * each; bowl++) {
                Check.due("turn()", x.turn(), bowl % 2);
                Check.thrown("count(), " + bowl + " of " + 2 * each, x, Check.STATE, () -> x.count());
                x.play(9, 70, 3);
                Check.due("sideOf()", x.sideOf(bowl), bowl % 2);
            }
            Check.due("bowls()", x.bowls(), 2 * each);
            Check.thrown("turn(), all are played", x, Check.STATE, () -> x.turn());
            Check.thrown("play, all are played", x, Check.STATE, () -> x.play(9, 70, 3));
            Check.due("count(), all are played", x.count(), 0);
        }
        Check.sentence(0, "An end begins as the jack is rolled.");
        WombatBowls x = new WombatBowls();
        Check.thrown("turn(), no end", x, Check.STATE, () -> x.turn());
        x.roll(20);
        Check.due("turn()", x.turn(), 0);
    }

    private static void firstSide() {
        Check.sentence(0, "the side that plays first in the first end of a match is 0; later it is the one that scored in the"
            + " latest end in which a side did.");
        WombatBowls x = new WombatBowls();
        x.changeBowls(1);
        Check.due("first(), no end", x.first(), 0);
        Check.moves(x, "j30;" + OUT + OUT + "c");
        Check.due("first(), no side has scored yet", x.first(), 0);
        x.roll(30);
        Check.moves(x, OUT + "b0,29,0");
        Check.due("first(), not counted yet", x.first(), 0);
        x.count();
        Check.due("first(), the side 1 has scored", x.first(), 1);
        Check.moves(x, "j30;" + OUT + OUT + "c");
        Check.due("first(), behind an end of no side", x.first(), 1);
        x.changeBowls(4);
        Check.moves(x, Situations.BURNT + ";c");
        Check.due("burntEnds()", x.burntEnds(), 1);
        Check.due("first(), behind a burnt end", x.first(), 1);
        Check.due("roll(30)", x.roll(30), 1);
        x.begin(5);
        Check.due("first(), another match", x.first(), 0);
        Check.due("roll(30), another match", x.roll(30), 0);
    }

    private static void burnt() {
        Check.sentence(0, "The end is burnt, if the jack lies in the ditch, and no bowl of the end is a toucher; then it is"
            + " over at once: no more bowls are played.");
        WombatBowls x = Check.after(Situations.TO_BURN);
        Check.due("jackRow(), just ahead of the ditch", x.jackRow(), 59);
        Check.due("isBurnt()", x.isBurnt(), false);
        Check.due("turn()", x.turn(), 0);
        // the bowl at 58 is struck: half of 5 is 2, and half of 1 is none for the jack; half of 6 is 3, and half of 2 is 1
        x.play(-3, 63, 1);
        Check.due("jackRow(), struck, but it stays", x.jackRow(), 59);
        Check.due("isBurnt(), it stays", x.isBurnt(), false);
        x.undo();
        x.play(-3, 64, 1);
        Check.due("jackRow(), in the ditch", x.jackRow(), 60);
        Check.due("touchers()", x.touchers(), 0);
        Check.due("isBurnt()", x.isBurnt(), true);
        Check.thrown("turn(), a bowl was to come", x, Check.STATE, () -> x.turn());
        Check.due("count()", x.count(), 0);
        WombatBowls one = Check.after("j50;b0,70,0");
        Check.due("jackRow(), in the ditch by a toucher", one.jackRow(), 60);
        Check.due("isBurnt(), one toucher", one.isBurnt(), false);
        Check.due("turn()", one.turn(), 1);
        // a toucher of another end does not count
        WombatBowls y = new WombatBowls();
        y.changeBowls(1);
        Check.moves(y, "j30;b0,30,0;" + OUT + "c");
        y.changeBowls(4);
        Check.moves(y, Situations.BURNT);
        Check.due("touchers(), of the end before", y.touchers(), 1);
        Check.due("isBurnt()", y.isBurnt(), true);
        // nor does one that was the eighth bowl there, while the end is burnt by the seventh; by count() and by begin()
        WombatBowls eighth = Check.after("j30;b9,70,3;b9,70,3;b9,70,3;b9,70,3;b9,70,3;b9,70,3;b9,70,3;b0,30,0");
        Check.due("isToucher(7)", eighth.isToucher(7), true);
        eighth.keep(0);
        eighth.count();
        Check.moves(eighth, Situations.BURNT);
        Check.due("isBurnt(), the eighth bowl of the end before is a toucher", eighth.isBurnt(), true);
        eighth.goBack(0);
        eighth.begin(21);
        Check.moves(eighth, Situations.BURNT);
        Check.due("isBurnt(), the eighth bowl of the match before is a toucher", eighth.isBurnt(), true);
        WombatBowls last = Check.after(Situations.BURNT_BY_LAST);
        Check.due("isBurnt(), by the last bowl", last.isBurnt(), true);
        Check.due("bowls()", last.bowls(), 8);
    }

    private static void putBack() {
        Check.sentence(0, "But if the jack is to be put back (at first it is not), the end is not burnt: at once the jack is"
            + " put to the column 10, and the first row from 40 on where no bowl lies, and the end goes on"
            + " (so also by turnBack(), if the end is burnt then).");
        WombatBowls not = Check.after(Situations.BURNT);
        Check.due("isBurnt(), at first", not.isBurnt(), true);
        WombatBowls x = new WombatBowls();
        x.turnBack();
        Check.moves(x, Situations.BURNT);
        Check.due("isBurnt()", x.isBurnt(), false);
        Check.due("jackRow()", x.jackRow(), 40);
        Check.due("jackColumn()", x.jackColumn(), 10);
        Check.due("turn(), the end goes on", x.turn(), 1);
        Check.thrown("count(), one bowl is to come", x, Check.STATE, () -> x.count());
        Check.due("pointsByPairs() scores again", x.pointsByPairs() > 0, true);
        Check.due("the distance is the one to the new place", x.distanceOf(0), 81);
        x.play(9, 70, 3);
        Check.due("count()", x.count() > 0, true);
        Check.due("burntEnds()", x.burntEnds(), 0);
        // in the ditch by touchers it stays there
        WombatBowls touched = new WombatBowls();
        touched.turnBack();
        Check.moves(touched, "j50;b0,70,0");
        Check.due("jackRow(), touched", touched.jackRow(), 60);
        Check.due("putBack(), touched", touched.putBack(), 0);
        WombatBowls near = new WombatBowls();
        near.turnBack();
        Check.moves(near, Situations.TO_BURN);
        Check.due("jackRow(), not in the ditch", near.jackRow(), 59);
        Check.due("putBack(), not in the ditch", near.putBack(), 0);
    }

    private static void jackBack(String moves, int row) {
        WombatBowls x = new WombatBowls();
        x.turnBack();
        Check.moves(x, moves);
        Check.due("jackRow() behind " + moves, x.jackRow(), row);
        Check.due("jackColumn() behind " + moves, x.jackColumn(), 10);
        Check.due("putBack() behind " + moves, x.putBack(), 1);
        Check.thrown("bowlAt() of the jack", x, Check.STATE, () -> x.bowlAt(row, 10));
    }

    private static void putBackRows() {
        Check.sentence(0, "the first row from 40 on where no bowl lies");
        jackBack(Situations.BURNT, 40);
        // bowls at 39 and at 41: the row 40 is free
        jackBack("j50;b0,42,0;b0,70,0;b-6,39,3;b-5,55,2;b8,70,-3;b-8,70,3;b-3,58,1;b-3,64,1", 40);
        jackBack("j50;b0,40,0;b-7,45,3;b-7,67,3;b-8,52,3;b-8,70,3;b8,70,-3;b-3,58,1;b-3,64,1", 41);
        // bowls at 40 and at 42: the row 41 is free
        jackBack("j50;b0,43,0;b0,69,0;b-4,40,2;b-5,55,2;b8,70,-3;b-8,70,3;b-3,58,1;b-3,64,1", 41);
        // a bowl in the row 40, but in the column 14
        jackBack("j50;b1,40,0;b-7,45,3;b-7,67,3;b-8,52,3;b-8,70,3;b8,70,-3;b-3,58,1;b-3,64,1", 40);
        // bowls at 40 and at 41
        jackBack(Situations.BURNT_BY_LAST, 42);
        WombatBowls x = new WombatBowls();
        x.turnBack();
        Check.moves(x, Situations.BURNT_BY_LAST);
        Check.due("bowlAt(40, 10)", x.bowlAt(40, 10), 2);
        Check.due("bowlAt(41, 10)", x.bowlAt(41, 10), 1);
        Check.thrown("turn(), all are played", x, Check.STATE, () -> x.turn());
        Check.due("count(), all are played", x.count() > 0, true);
    }

    private static void turnBackInBurntEnd() {
        Check.sentence(8, "Lets the jack be put back where an end would be burnt, or not, if it is put back. Undoable.");
        WombatBowls x = Check.after(Situations.BURNT);
        Check.due("turnBack()", x.turnBack(), true);
        Check.due("isBurnt()", x.isBurnt(), false);
        Check.due("jackRow()", x.jackRow(), 40);
        Check.due("putBack()", x.putBack(), 1);
        Check.due("turn()", x.turn(), 1);
        Check.due("turnBack() off", x.turnBack(), false);
        Check.due("jackRow(), it stays", x.jackRow(), 40);
        Check.due("putBack(), it stays", x.putBack(), 1);
        x.undo();
        x.undo();
        Check.due("isBurnt(), undone", x.isBurnt(), true);
        Check.due("jackRow(), undone", x.jackRow(), 60);
        Check.due("putBack(), undone", x.putBack(), 0);
        WombatBowls touched = Check.after(Situations.TOUCHED);
        Check.due("turnBack(), touched", touched.turnBack(), true);
        Check.due("jackRow(), touched", touched.jackRow(), 60);
        Check.due("putBack(), touched", touched.putBack(), 0);
        WombatBowls rolled = Check.after("j30");
        rolled.turnBack();
        Check.due("jackRow(), on the green", rolled.jackRow(), 30);
        WombatBowls fresh = new WombatBowls();
        fresh.turnBack();
        Check.due("isJackThere(), none", fresh.isJackThere(), false);
        WombatBowls last = Check.after(Situations.BURNT_BY_LAST);
        last.turnBack();
        Check.due("jackRow(), by the last bowl", last.jackRow(), 42);
        Check.thrown("turn(), by the last bowl", last, Check.STATE, () -> last.turn());
        Check.due("count(), by the last bowl", last.count() > 0, true);
        Check.due("burntEnds()", last.burntEnds(), 0);
    }

    private static void scores() {
        Check.sentence(0, "A side scores, if the end is not burnt, and it has a bowl that is not dead and is nearer to the jack"
            + " than all bowls of the other side that are not dead; its points are how many of its bowls are so,"
            + " touchers twice, if they count twice (at first not).");
        points("j30;b9,70,3", 0, -1);
        points("j30;b9,70,3;b9,70,3", 0, -1);
        points("j30;b0,24,0", 1, 0);
        points("j30;b9,70,3;b0,24,0", 1, 1);
        // distances 36 and 34; 36, 34 and 13
        points("j30;b2,30,0;b1,25,0", 1, 1);
        points("j30;b2,30,0;b1,25,0;b-1,28,0", 1, 0);
        // the bowls of a side whose other side is all dead count all, however far
        points("j30;b0,15,0;b9,70,3;b0,16,0;b9,70,3;b3,59,-1;b9,70,3;b2,52,0", 4, 0);
        Check.sentence(0, "touchers twice, if they count twice (at first not)");
        WombatBowls x = Check.after("j30;b0,30,0;b9,70,3;b0,25,0");
        Check.due("pointsByPairs(), at first", x.pointsByPairs(), 2);
        x.turnTwice();
        Check.due("pointsByPairs(), a toucher and another", x.pointsByPairs(), 3);
        Check.due("pointsByOrder(), a toucher and another", x.pointsByOrder(), 3);
        Check.sentence(0, "One side scores in each end, at the most.");
        x.play(9, 70, 3);
        Check.moves(x, OUT + OUT + OUT + OUT);
        Check.due("count()", x.count(), 3);
        Check.due("pointsOf(0)", x.pointsOf(0), 3);
        Check.due("pointsOf(1)", x.pointsOf(1), 0);
        Check.moves(x, "j30;b0,25,0;b1,30,0;" + OUT + OUT + OUT + OUT + OUT + OUT + "c");
        Check.due("pointsOf(0), the other side scored", x.pointsOf(0), 3);
        Check.due("pointsOf(1)", x.pointsOf(1), 1);
    }

    private static void points(String moves, int points, int side) {
        WombatBowls x = Check.after(moves);
        Check.due("pointsByOrder() behind " + moves, x.pointsByOrder(), points);
        Check.due("pointsByPairs() behind " + moves, x.pointsByPairs(), points);
        Check.due("leader() behind " + moves, Check.answer(y -> y.leader(), x), side < 0 ? Check.STATE : (Object) side);
    }

    private static void alike() {
        Check.sentence(0, "(Distances that are alike are not nearer.)");
        // 9 and 9; 9 and 10; 10 and 9
        points("j30;b1,30,0;b-1,30,0", 0, -1);
        points("j30;b1,30,0;b1,29,0", 1, 0);
        points("j30;b1,29,0;b-1,30,0", 1, 1);
        // 9, 9 and 4: only the one at 4 counts; 9, 10 and 9: both at 9 count
        points("j30;b1,30,0;b-1,30,0;b0,28,0", 1, 0);
        points("j30;b1,30,0;b1,29,0;b-1,30,0", 2, 0);
        // 16, 9, 16 and 9 of one side: two; 16 of the side 0 as well as of the side 1
        points("j30;b0,26,0;b-1,30,0;b9,70,3;b1,30,0", 2, 1);
        points("j30;b1,30,0;b0,27,0", 0, -1);
    }

    private static void countState() {
        Check.sentence(4, "Throws IllegalStateException if the jack does not lie, or neither all bowls are played nor the end"
            + " is burnt");
        Check.refused("count, a new object", Situations::fresh, Check.STATE, x -> x.count());
        Check.refused("count, a jack without bowls", Situations::rolled, Check.STATE, x -> x.count());
        Check.refused("count, one bowl to come", Situations::oneToCome, Check.STATE, x -> x.count());
        Check.undoable("count, all are played", Situations::played, false, x -> x.count());
        Check.refused("count, just ahead of a burnt end", () -> Check.after(Situations.TO_BURN), Check.STATE,
            x -> x.count());
        Check.undoable("count, burnt, one to come", Situations::burnt, false, x -> x.count());
        Check.undoable("count, burnt, none to come", Situations::burntByLast, false, x -> x.count());
        Check.refused("count, in the ditch, touched, some to come", Situations::touched, Check.STATE, x -> x.count());
        Check.undoable("count, in the ditch, touched, none to come", () -> {
            WombatBowls x = Situations.touched();
            Check.moves(x, OUT + OUT + OUT + OUT);
            return x;
        }, false, x -> x.count());
        Check.refused("count, put back, one to come", Situations::putBack, Check.STATE, x -> x.count());
        Check.undoable("count, put back, none to come", Situations::putBackByLast, false, x -> x.count());
        Check.refused("count, the match is over", Situations::over, Check.STATE, x -> x.count());
        Check.refused("count, counted already", () -> {
            WombatBowls x = Situations.played();
            x.count();
            return x;
        }, Check.STATE, x -> x.count());
    }

    private static void countedPoints() {
        Check.sentence(4, "Returns the points that are counted.");
        // eight bowls, and no side scores: all are dead, or the nearest ones are alike
        WombatBowls none = new WombatBowls();
        none.changeBowls(1);
        Check.moves(none, "j30;" + OUT + "b0,29,0;c");
        none.changeBowls(4);
        String dead = OUT + OUT + OUT + OUT + OUT + OUT;
        for (String moves : new String[] {"j30;" + dead + OUT + OUT + "c", "j30;b1,30,0;b-1,30,0;" + dead + "c",
            "j30;" + dead + "b1,30,0;b-1,30,0;c"}) {
            Check.moves(none, moves.substring(0, moves.length() - 2));
            Check.thrown("leader(), eight bowls, " + moves, none, Check.STATE, () -> none.leader());
            Check.due("count(), " + moves, none.count(), 0);
            Check.due("first(), as before", none.first(), 1);
            Check.due("the points of both sides, as before", none.pointsOf(0) * 100 + none.pointsOf(1), 1);
        }
        // touchers twice: 4 to 8 are counted for the side 0
        String[] four = {"b0,54,0;", "b-8,52,3;", "b8,64,-3;", "b-3,58,1;"};
        for (int touchers = 0; touchers <= 4; touchers++) {
            WombatBowls x = new WombatBowls();
            x.turnTwice();
            x.roll(50);
            for (int bowl = 0; bowl < 4; bowl++) {
                Check.moves(x, (bowl < touchers ? four[bowl] : bowl % 2 == 0 ? "b5,20,0;" : "b-5,20,0;") + OUT);
            }
            Check.due("touchers()", x.touchers(), touchers);
            Check.due("aliveOf(0)", x.aliveOf(0), 4);
            Check.due("count(), " + touchers + " touchers", x.count(), 4 + touchers);
            Check.due("pointsOf(0)", x.pointsOf(0), 4 + touchers);
        }
        Check.sentence(4, "Counts the end; the jack and the bowls are taken away. If the end is burnt, nothing is counted."
            + " Undoable.");
        WombatBowls x = Situations.played();
        int ends = x.ends();
        Check.due("count()", x.count() > 0, true);
        Check.due("ends()", x.ends(), ends + 1);
        Check.due("isJackThere()", x.isJackThere(), false);
        Check.due("bowls()", x.bowls(), 0);
        Check.due("aliveOf(0)", x.aliveOf(0), 0);
        Check.due("aliveOf(1)", x.aliveOf(1), 0);
        Check.due("spread()", x.spread(), 0);
        Check.thrown("stateOf(0)", x, Check.INDEX, () -> x.stateOf(0));
        x.roll(20);
        Check.due("bowls() of the next end", x.bowls(), 0);
        WombatBowls burnt = Situations.burntByLast();
        int points = burnt.pointsOf(0) + burnt.pointsOf(1);
        Check.due("count(), burnt", burnt.count(), 0);
        Check.due("the points of both sides, as before", burnt.pointsOf(0) + burnt.pointsOf(1), points);
        Check.due("isJackThere()", burnt.isJackThere(), false);
        Check.due("bowls()", burnt.bowls(), 0);
        Check.due("burntEnds()", burnt.burntEnds(), 1);
        // the side 0 would score by its first bowl, if the end were not burnt
        WombatBowls first = Check.after(Situations.BURNT_AT_FIRST);
        Check.due("isBurnt()", first.isBurnt(), true);
        for (int bowl = 1; bowl < 8; bowl += 2) {
            Check.due("bowl 0 is nearer than " + bowl, first.distanceOf(0) < first.distanceOf(bowl), true);
        }
        Check.due("count(), burnt", first.count(), 0);
        Check.due("pointsOf(0), burnt", first.pointsOf(0), 0);
        Check.due("pointsOfEnd(0), burnt", first.pointsOfEnd(0), 0);
    }
}
