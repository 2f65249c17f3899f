/** Promises 10 to 13: texts. */
public final class TextTest {
    public static void main(String[] args) {
        append();
        errors();
        allBegins();
        playAll();
        playAllWrong();
        Check.end("TextTest");
    }

    private static void append() {
        WombatBowls x = new WombatBowls();
        for (int code : new int[] {32, 127, 0, -1, Integer.MAX_VALUE, Integer.MIN_VALUE}) {
            Check.thrown("append " + code, x, Check.ARGUMENT, () -> x.append(code));
        }
        Check.due("append(33)", x.append(33), 1);
        Check.due("append(126)", x.append(126), 2);
        Check.due("savedStates(), not undoable", x.savedStates(), 0);
        Check.due("clearBuffer()", x.clearBuffer(), 2);
        Check.due("clearBuffer() again", x.clearBuffer(), 0);
        for (int length = 1; length <= 60; length++) {
            Check.due("append(99)", x.append(99), length);
        }
        Check.thrown("append(99), full", x, Check.STATE, () -> x.append(99));
        Check.thrown("append(32), full", x, Check.ARGUMENT, () -> x.append(32));
        Check.due("clearBuffer(), full", x.clearBuffer(), 60);
    }

    private static void error(String text, int due) {
        WombatBowls x = new WombatBowls();
        Check.append(x, text);
        Check.due("firstError() of " + text, x.firstError(), due);
    }

    private static void errors() {
        String[] right = {"", "j", "j2", "j20", "j29", "j35", "j49", "j5", "j50", "b", "b-", "b-1", "b-9", "b0", "b9",
            "b0,", "b0,1", "b0,15", "b0,19", "b0,2", "b0,20", "b0,69", "b0,7", "b0,70", "b0,70,", "b0,70,-",
            "b0,70,-1", "b0,70,-3", "b0,70,0", "b0,70,3", "c", "c;", "c;c", "w", "w-", "w-1", "w-5", "w0", "w5", "w5;",
            "j20;b0,15,0;b-9,70,-3;c;w-5;j50", "b0,70,3;"};
        for (String text : right) {
            error(text, text.length());
        }
        // the last character is the error
        String[] wrong = {"j1", "j0", "j6", "j19", "j51", "j5;", "j2;", "j200", "j-", "b-0", "b10", "b,", "b--", "b0;",
            "b0,0", "b0,8", "b0,-", "b0,14", "b0,1,", "b0,71", "b0,7,", "b0,150", "b0,15;", "b0,15,4", "b0,15,-0",
            "b0,15,-4", "b0,15,00", "b0,15,0,", "b0,15,;", "cc", "c,", "c;;", ";", "w6", "w-0", "w-6", "w--", "w;",
            "w00", "w-10", "x", "J", "C", "c;x", "-", "0", ",", "~", "!", "b0,15,0b"};
        for (String text : wrong) {
            error(text, wrongAt(text));
        }
        error("cxc", 1);
        error("j20;b-9,15,3;w6;c", 14);
    }

    private static int wrongAt(String text) {
        // of these two the first wrong one is not the last
        return text.equals("j19") ? 1 : text.length() - 1;
    }

    /** Every character at every place of moves is an error, but for the ones that the text tells. */
    private static void allBegins() {
        String[] begins = {"", "j", "j2", "j4", "j5", "j50", "b", "b-", "b0", "b-9", "b0,", "b0,1", "b0,2", "b0,6", "b0,7",
            "b0,70", "b0,70,", "b0,70,-", "b0,70,0", "c", "w", "w-", "w5", "c;"};
        String[] next = {"jbcw", "2345", "0123456789", "0123456789", "0", ";", "-0123456789", "123456789", ",", ",",
            "1234567", "56789", "0123456789", "0123456789", "0", ",", "-0123", "123", ";", ";", "-012345", "12345", ";",
            "jbcw"};
        for (int begin = 0; begin < begins.length; begin++) {
            WombatBowls x = new WombatBowls();
            for (char code = 33; code <= 126; code++) {
                x.clearBuffer();
                Check.append(x, begins[begin]);
                x.append(code);
                int due = begins[begin].length() + (next[begin].indexOf(code) >= 0 ? 1 : 0);
                // an object is promised for 512 calls alone
                if (code % 30 == 0) {
                    x = new WombatBowls();
                    Check.append(x, begins[begin]);
                    x.append(code);
                }
                Check.due("firstError() of " + begins[begin] + code, x.firstError(), due);
            }
        }
    }

    private static void playAll() {
        WombatBowls x = new WombatBowls();
        WombatBowls y = new WombatBowls();
        x.changeBowls(1);
        y.changeBowls(1);
        Check.append(x, "w-2;j30;b2,29,0;b-5,70,3;c;j50;b-9,15,-3;w5");
        Check.due("playAll()", x.playAll(), 3);
        Check.due("clearBuffer(), it is cleared", x.clearBuffer(), 0);
        Check.due("savedStates(), one more", x.savedStates(), 2);
        Check.moves(y, "w-2;j30;b2,29,0;b-5,70,3;c;j50;b-9,15,-3;w5");
        Check.due("wind()", x.wind(), 5);
        Check.due("ends()", x.ends(), 1);
        Check.due("aimOf(0)", x.aimOf(0), -9);
        Check.due("weightOf(0)", x.weightOf(0), 15);
        Check.due("biasOf(0)", x.biasOf(0), -3);
        Check.due("stateOf(0)", x.stateOf(0), y.stateOf(0));
        Check.due("pointsOf(0)", x.pointsOf(0), y.pointsOf(0));
        Check.due("jackRow()", x.jackRow(), 50);
        x.append('c');
        x.undo();
        Check.due("isJackThere() once undone", x.isJackThere(), false);
        Check.due("ends() once undone", x.ends(), 0);
        Check.due("wind() once undone", x.wind(), 0);
        Check.due("clearBuffer(), undo leaves the buffer", x.clearBuffer(), 1);
        Check.append(x, "w0");
        Check.due("playAll(), no bowls", x.playAll(), 0);
        String full = "w-5;w-5;w-5;w-5;w-5;w-5;w-5;w-5;w-5;w-5;w-5;w-5;w-5;w-5;w-5";
        Check.due("a full buffer", full.length(), 59);
        Check.append(x, full);
        Check.due("playAll() of it", x.playAll(), 0);
        Check.due("wind()", x.wind(), -5);
    }

    private static void playAllWrong() {
        WombatBowls x = new WombatBowls();
        Check.thrown("playAll(), empty", x, Check.ARGUMENT, () -> x.playAll());
        String[] argument = {"j", "j2", "w0;", "b", "b0,15", "b0,15,", "b0,15,-", "w", "w-", "x", "w0;x", ";", "w0;;w0",
            "c;", "j20;b0,71,0", "c;x"};
        for (String text : argument) {
            x.clearBuffer();
            Check.append(x, text);
            Check.thrown("playAll(), " + text, x, Check.ARGUMENT, () -> x.playAll());
        }
        String[] state = {"c", "b0,15,0", "w1;c", "w1;b0,15,0", "j20;j20", "j20;c", "w1;j20;b0,20,0;c",
            "w3;j20;b0,15,0;b0,15,0;b0,15,0;b0,15,0;b0,15,0;c"};
        for (String text : state) {
            x.clearBuffer();
            Check.append(x, text);
            Check.thrown("playAll(), " + text, x, Check.STATE, () -> x.playAll());
            Check.due("the buffer stays", x.firstError(), text.length());
        }
        Check.due("wind(), all or nothing", x.wind(), 0);
        Check.due("savedStates()", x.savedStates(), 0);
        allPlayedOrOver();
    }

    private static void allPlayedOrOver() {
        WombatBowls y = new WombatBowls();
        y.begin(1);
        y.changeBowls(1);
        Check.append(y, "j20;b0,20,0;b0,20,0;b0,20,0");
        Check.thrown("playAll(), all bowls are played", y, Check.STATE, () -> y.playAll());
        y.clearBuffer();
        Check.append(y, "j30;b0,29,0;b9,70,3;c;j30");
        Check.thrown("playAll(), the match is over by then", y, Check.STATE, () -> y.playAll());
        y.clearBuffer();
        Check.append(y, "j30;b0,29,0;b9,70,3;c;w1");
        Check.due("playAll()", y.playAll(), 2);
        Check.due("isOver()", y.isOver(), true);
        WombatBowls x = new WombatBowls();
        Check.moves(x, "j50;b-7,45,3;b-7,67,3;b-8,52,3;b-8,70,3;b8,70,-3");
        Check.append(x, "b-3,58,1;b-3,64,1;b0,20,0");
        Check.thrown("playAll(), the end is burnt by then", x, Check.STATE, () -> x.playAll());
        x.clearBuffer();
        Check.append(x, "b-3,58,1;b-3,64,1;c;j20");
        Check.due("playAll(), a burnt end is counted", x.playAll(), 2);
        Check.due("burntEnds()", x.burntEnds(), 1);
    }
}
