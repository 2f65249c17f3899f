import java.util.function.Supplier;

/** The boundary cases of 'Input text' in 'Terms' and of the promises 10 to 13: texts. */
final class TextBounds {
    private static final String FULL = Situations.FULL_TEXT;

    private TextBounds() {
    }

    static void run() {
        codes();
        sixty();
        clear();
        numbers();
        zeros();
        lettersAndSigns();
        firstError();
        errorOfFull();
        toldOrNot();
        whatIsPlayed();
        allOrNothing();
        turnComes();
        oneCall();
    }

    private static Supplier<WombatBowls> with(String text) {
        return () -> {
            WombatBowls x = new WombatBowls();
            Check.append(x, text);
            return x;
        };
    }

    /** The first error is there; a text that is right so far has none. */
    private static void error(String text, int due) {
        WombatBowls x = with(text).get();
        Check.due("firstError() of " + text, x.firstError(), due);
        Check.due("clearBuffer() of " + text + ", firstError() changes nothing", x.clearBuffer(), text.length());
    }

    /** All but the last character are right, and so is the last one, or not. */
    private static void right(String... texts) {
        for (String text : texts) {
            error(text, text.length());
            error("w0;c;" + text, text.length() + 5);
        }
    }

    private static void wrong(String... texts) {
        for (String text : texts) {
            error(text, text.length() - 1);
            error("w0;c;" + text, text.length() + 4);
            // what is behind it does not matter
            error(text + "j20", text.length() - 1);
            Check.refused("playAll() of " + text, with(text), Check.ARGUMENT, x -> x.playAll());
        }
    }

    private static void codes() {
        Check.sentence(10, "code: the character code, 33 to 126");
        Check.sentence(10, "Throws IllegalArgumentException if code is not 33 to 126");
        Check.range("append", Situations::fresh, 33, 126, Check.ARGUMENT, (x, code) -> x.append(code));
        Check.range("append, one is missing", with(FULL.substring(1)), 33, 126, Check.ARGUMENT, (x, code) -> x.append(code));
        for (int code : new int[] {0, 10, 32, 127, 128, 65536 + 99, -99}) {
            Check.refused("append " + code, Situations::open, Check.ARGUMENT, x -> x.append(code));
            Check.refused("append " + code + ", full", Situations::full, Check.ARGUMENT, x -> x.append(code));
        }
    }

    private static void sixty() {
        Check.sentence(10, "Returns the new length of the buffer.");
        WombatBowls x = new WombatBowls();
        for (int length = 1; length <= 60; length++) {
            Check.due("append", x.append(33 + length), length);
        }
        Check.sentence(0, "The buffer has at most 60 characters.");
        Check.sentence(10, "Throws IllegalStateException if the buffer has 60 characters");
        Check.undoableNot("append, the 60th", with(FULL.substring(1)), y -> y.append('c'));
        Check.refused("append, the 61st", Situations::full, Check.STATE, y -> y.append('c'));
        Check.refused("append, the 61st, 33", Situations::full, Check.STATE, y -> y.append(33));
        Check.refused("append, the 61st, 126", Situations::full, Check.STATE, y -> y.append(126));
        Check.due("clearBuffer()", x.clearBuffer(), 60);
        Check.due("append, it is empty again", x.append('c'), 1);
        WombatBowls full = Situations.full();
        Check.due("firstError(), full", full.firstError(), 60);
        Check.due("playAll(), full", full.playAll(), 0);
        Check.due("wind(), the last of the 60", full.wind(), 1);
        Check.due("append, it is cleared", full.append('c'), 1);
    }

    private static void clear() {
        Check.sentence(11, "Returns the length that it had.");
        for (int length : new int[] {0, 1, 2, 59, 60}) {
            WombatBowls x = with(FULL.substring(0, length)).get();
            Check.due("clearBuffer()", x.clearBuffer(), length);
            Check.due("clearBuffer() again", x.clearBuffer(), 0);
            Check.due("firstError()", x.firstError(), 0);
            Check.due("savedStates(), not undoable", x.savedStates(), 0);
        }
        // what was cleared is not read any more
        WombatBowls y = with("w5;w").get();
        y.clearBuffer();
        Check.append(y, "w");
        Check.thrown("playAll(), w alone", y, Check.ARGUMENT, () -> y.playAll());
        y.append('4');
        y.playAll();
        Check.due("wind()", y.wind(), 4);
    }

    private static void numbers() {
        Check.sentence(0, "\"j\" and 20 to 50 (the jack is rolled)");
        right("j20", "j21", "j29", "j30", "j39", "j40", "j49", "j50", "j2", "j5");
        wrong("j0", "j1", "j6", "j7", "j9", "j51", "j52", "j59", "j200", "j500");
        Check.sentence(0, "\"b\", an aim, \",\", a weight, 15 to 70, \",\", and a bias (a bowl is played)");
        right("b0,15,0", "b0,16,0", "b0,19,0", "b0,20,0", "b0,29,0", "b0,60,0", "b0,69,0", "b0,70,0", "b0,1", "b0,7");
        wrong("b0,0", "b0,8", "b0,9", "b0,10", "b0,13", "b0,14", "b0,71", "b0,72", "b0,79", "b0,150", "b0,700", "b0,-");
        Check.sentence(0, "An aim is \"-\", and 1 to 9, or 0 to 9; a bias likewise with 3, a wind with 5 instead of 9.");
        right("b-9,15,0", "b-8,15,0", "b-1,15,0", "b0,15,0", "b1,15,0", "b8,15,0", "b9,15,0");
        wrong("b10", "b-10", "b-99", "b99", "b--", "b-,");
        right("b0,15,-3", "b0,15,-2", "b0,15,-1", "b0,15,0", "b0,15,1", "b0,15,2", "b0,15,3", "b0,15,-");
        wrong("b0,15,4", "b0,15,9", "b0,15,-4", "b0,15,-9", "b0,15,10", "b0,15,30", "b0,15,-30", "b0,15,--");
        right("w-5", "w-4", "w-1", "w0", "w1", "w4", "w5", "w-");
        wrong("w6", "w9", "w-6", "w-9", "w10", "w50", "w-50", "w--");
    }

    private static void zeros() {
        Check.sentence(0, "Numbers are without leading zeros.");
        wrong("j0", "b00", "b01", "b0,0", "b0,15,00", "b0,15,01", "b0,15,-0", "w00", "w01", "b-0", "w-0");
        right("b0,20,0", "j20", "w0", "b0", "b0,15,0");
    }

    /** The texts whose last character is wrong, but not the one ahead of it. */
    private static void lettersAndSigns() {
        Check.sentence(0, "Moves as a text are one or more parts with \";\" between them: \"j\" and 20 to 50 (the jack is rolled);"
            + " \"b\", an aim, \",\", a weight, 15 to 70, \",\", and a bias (a bowl is played); \"c\" (the end is counted); or"
            + " \"w\" and a wind (it blows).");
        right("j20;j20", "c;c", "w0;w0", "b0,15,0;b0,15,0", "c;j20", "c;b0,15,0;w-1", "j50;c;", "b-9,70,-3;w5;c;j", "c;");
        wrong("j20j", "cc", "cj", "w0w", "w0c", "b0,15,0b", "j20;;", "c;;", ";", "c;x", "j;", "w;", "b;", "j2;", "b0;");
        wrong("b0,;", "b0,1;", "b0,15;", "b0,15,;", "j20,", "c,", "w0,", "b,", "b-,", "j,", "w,", "b0,15,0,", "b0.", "w+");
        wrong("J", "B", "C", "W", "k", "i", "d", "v", "x", "!", "~", "a", "z", "{", "0", "9", "-", ",", "/", ":");
        wrong("j:", "j/", "j2:", "j2/", "b0,2/", "b0,2:", "w/", "w:", "b/", "b:", "j-", "j20-", "c-", "c0", "j5/", "j51");
        wrong("b-/", "b-:", "b0,1/", "b0,1:", "b0,6:", "b0,15,/", "b0,15,:", "b0,15,-:", "b0,15,-/", "w-:", "w-/", "w6", "b0,/", "b0,:");
    }

    private static void firstError() {
        Check.sentence(12, "Returns the index of the first character that is a syntax error; the length of the buffer if there"
            + " is none.");
        error("", 0);
        error("x", 0);
        error("c", 1);
        error("cx", 1);
        error("xx", 0);
        error("c;j20;w6;x", 7);
        error("c;j20;w5;x", 9);
        error("c;j20;w5;c", 10);
        Check.sentence(0, "The buffer is read from left to right; a character is a syntax error if no moves as a text, of any"
            + " length, begin with the characters before it and this character.");
        // moves that begin so would be longer than the buffer, but of any length they are allowed
        error(FULL.substring(0, 52) + "w5;w5;j5", 60);
        error(FULL.substring(0, 52) + "w5;w5;j1", 59);
        // a move that can not be made is no syntax error
        error("c;c;b0,15,0;j20;j20", 19);
    }

    private static void errorOfFull() {
        Check.sentence(12, "Finds the first syntax error of the buffer.");
        for (int index : new int[] {0, 1, 30, 58, 59}) {
            WombatBowls x = with(FULL.substring(0, index) + "x" + FULL.substring(index + 1)).get();
            Check.due("firstError(), x at " + index, x.firstError(), index);
            Check.thrown("playAll(), x at " + index, x, Check.ARGUMENT, () -> x.playAll());
        }
        WombatBowls x = with(FULL.substring(0, 59)).get();
        Check.due("firstError(), 59 of them", x.firstError(), 59);
        Check.thrown("playAll(), 59 of them, w alone at the end", x, Check.ARGUMENT, () -> x.playAll());
        x.append('5');
        Check.due("playAll(), the 60th character", x.playAll(), 0);
        Check.due("wind(), the 60th character", x.wind(), 5);
    }

    private static void toldOrNot() {
        Check.sentence(13, "Throws IllegalArgumentException if the buffer does not tell moves as a text");
        // begun, but not ended: none of these has a syntax error
        String[] begun = {"", "j", "j2", "j5", "b", "b-", "b0", "b-9", "b0,", "b0,1", "b0,2", "b0,7", "b0,70", "b0,70,",
            "b0,70,-", "w", "w-", "c;", "w0;", "j20;", "b0,15,0;", "c;j", "w1;b0,15"};
        for (String text : begun) {
            error(text, text.length());
            Check.refused("playAll() of " + text, with(text), Check.ARGUMENT, x -> x.playAll());
        }
        // ahead of a move that could not be made: the argument is named first
        Check.refused("playAll(), c;", with("c;"), Check.ARGUMENT, x -> x.playAll());
        Check.refused("playAll(), c;x", with("c;x"), Check.ARGUMENT, x -> x.playAll());
        Check.refused("playAll(), w1;b0,15,0;w6", with("w1;b0,15,0;w6"), Check.ARGUMENT, x -> x.playAll());
        String[] told = {"w0", "w5", "w-5", "j20", "j50", "w0;w0", "j20;b0,15,0", "j20;w1;b-9,70,-3"};
        for (String text : told) {
            Check.undoable("playAll() of " + text, with(text), true, x -> x.playAll());
        }
    }

    private static void whatIsPlayed() {
        Check.sentence(13, "Plays the moves of the buffer as roll(), play(), count() and changeWind() do, one after the other,"
            + " all or nothing, and clears the buffer. Undoable, as one call.");
        String[] texts = {"j20", "j50;w-5", "w5;j20;b-9,15,-3", "j49;b9,70,3;b0,69,0", "j30;b0,30,0;b-1,29,1;w-1;b1,16,-1",
            "j21;b-1,15,0;b1,20,2;b2,22,-2;b-2,19,0;b3,55,0;b-3,66,1", "j40;b0,70,0;b0,70,0;b5,58,-2"};
        for (String text : texts) {
            WombatBowls x = with(text).get();
            int bowls = text.split("b").length - 1;
            Check.sentence(13, "Returns how many bowls are played in it.");
            Check.due("playAll() of " + text, x.playAll(), bowls);
            Check.sentence(13, "one after the other, all or nothing, and clears the buffer");
            WombatBowls y = Check.after(text);
            // another count of saved states: what undo drops of y is older than the state before it
            x.keep(0);
            y.keep(0);
            for (int call = 0; call < 6; call++) {
                x.goBack(0);
                y.goBack(0);
            }
            Check.due("digest() behind " + text, x.digest(), y.digest());
        }
        WombatBowls z = new WombatBowls();
        z.changeBowls(1);
        Check.append(z, "j30;b0,29,0;b9,70,3;c;w1;j20;b-9,15,0;b-8,15,0;c;j50");
        Check.due("playAll(), two ends", z.playAll(), 4);
        Check.due("ends()", z.ends(), 2);
        Check.due("jackRow()", z.jackRow(), 50);
        Check.due("clearBuffer()", z.clearBuffer(), 0);
    }

    private static void allOrNothing() {
        Check.sentence(13, "Throws IllegalStateException if one of these methods would throw any exception, when its turn comes");
        // the first move, one in the midst, the last one
        for (String text : new String[] {"c", "b0,15,0", "c;w1", "b0,15,0;w1", "w1;c;w2", "w1;b0,15,0;w2", "w1;w2;c",
            "w1;w2;b0,15,0", "j20;j20", "j20;w1;j20;w2", "j20;c", "j20;b0,15,0;c"}) {
            Check.refused("playAll() of " + text, with(text), Check.STATE, x -> x.playAll());
        }
        Check.refused("playAll(), the match is over", Situations::over, Check.STATE, x -> x.playAll());
        WombatBowls x = with("w3;j20;b0,15,0;c").get();
        Check.thrown("playAll()", x, Check.STATE, () -> x.playAll());
        Check.due("wind(), nothing of it", x.wind(), 0);
        Check.due("isJackThere(), nothing of it", x.isJackThere(), false);
        Check.due("played(), nothing of it", x.played(), 0);
        Check.due("savedStates()", x.savedStates(), 0);
        Check.due("clearBuffer(), it stays", x.clearBuffer(), 16);
    }

    /** What is allowed or not only comes with the moves ahead of it. */
    private static void turnComes() {
        Check.sentence(13, "Throws IllegalStateException if one of these methods would throw any exception, when its turn comes");
        Supplier<WombatBowls> one = () -> {
            WombatBowls x = new WombatBowls();
            x.begin(2);
            x.changeBowls(1);
            x.clearBuffer();
            return x;
        };
        String won = "j30;b0,29,0;b9,70,3;c;";
        turn(one, "j20;b0,15,0;b1,15,0", true);
        turn(one, "j20;b0,15,0;b1,15,0;b2,15,0", false);
        turn(one, "j20;b0,15,0;c", false);
        turn(one, "j20;b0,15,0;b1,15,0;c", true);
        turn(one, "j20;b0,15,0;b1,15,0;c;c", false);
        turn(one, "j20;b0,15,0;b1,15,0;c;j20", true);
        turn(one, won + "j20;w1", true);
        turn(one, won + won + "w1", true);
        turn(one, won + won + "j20", false);
        Supplier<WombatBowls> toBurn = () -> Check.after(Situations.TO_BURN);
        turn(toBurn, "b-3,64,1", true);
        turn(toBurn, "b-3,64,1;c", true);
        turn(toBurn, "b-3,64,1;b0,15,0", false);
        turn(toBurn, "b-3,63,1;b0,15,0", true);
        turn(toBurn, "b-3,63,1;c", false);
        turn(toBurn, "b-3,64,1;c;j20", true);
        turn(() -> {
            WombatBowls x = toBurn.get();
            x.turnBack();
            return x;
        }, "b-3,64,1;b0,15,0;c", true);
    }

    private static void turn(Supplier<WombatBowls> make, String text, boolean allowed) {
        Supplier<WombatBowls> told = () -> {
            WombatBowls x = make.get();
            Check.append(x, text);
            return x;
        };
        if (allowed) {
            Check.undoable("playAll() of " + text, told, true, x -> x.playAll());
        } else {
            Check.refused("playAll() of " + text, told, Check.STATE, x -> x.playAll());
        }
    }

    private static void oneCall() {
        Check.sentence(13, "Undoable, as one call.");
        WombatBowls x = new WombatBowls();
        x.changeWind(2);
        Check.append(x, "w1;j20;w3;b0,15,0;w4;b0,16,0;w5");
        Check.due("playAll()", x.playAll(), 2);
        Check.due("savedStates(), one more", x.savedStates(), 2);
        x.undo();
        Check.due("wind(), all of it is undone", x.wind(), 2);
        Check.due("isJackThere(), all of it is undone", x.isJackThere(), false);
        Check.due("savedStates()", x.savedStates(), 1);
        Check.due("clearBuffer(), undo does not bring it back", x.clearBuffer(), 0);
        // the seventh state drops the oldest one
        for (int wind = -1; wind >= -5; wind--) {
            x.changeWind(wind);
        }
        Check.append(x, "w0;w0");
        x.playAll();
        Check.due("savedStates(), six", x.savedStates(), 6);
        Check.undoAll(x);
        Check.due("wind(), the oldest one that is left", x.wind(), 2);
    }
}
