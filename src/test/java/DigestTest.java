/** Promise 63: the digest, put together from the answers of the other calls, word for word. */
public final class DigestTest {
    private static WombatBowls x;

    public static void main(String[] args) {
        x = new WombatBowls();
        compare("a new object", false, false, 0, 0, "");
        x.changeWind(-2);
        x.turnBack();
        Check.moves(x, "j30;b2,29,0;b2,40,0;b9,70,3");
        compare("an end", true, false, 0, 0, "");
        x = new WombatBowls();
        x.turnTwice();
        x.keep(1);
        Check.append(x, "b0,~!");
        Check.moves(x, "j50;b5,70,-2;b0,70,0;b0,70,0");
        compare("a jack in the ditch, touchers", false, true, 0, 1, "b0,~!");
        x = new WombatBowls();
        x.keep(0);
        Check.moves(x, "j50;b-7,45,3;b-7,67,3;b-8,52,3;b-8,70,3;b8,70,-3;b-3,58,1;b-3,64,1");
        compare("a burnt end", false, false, 1, 0, "");
        x.turnBack();
        compare("a jack put back", true, false, 1, 0, "");
        accounts();
        bitsOfMeans();
        Check.end("DigestTest");
    }

    private static void accounts() {
        x = new WombatBowls();
        x.begin(20);
        x.changeBowls(1);
        for (int end = 0; end < 13; end++) {
            Check.moves(x, end % 3 == 0 ? "j30;b0,29,0;b9,70,3;c" : end % 3 == 1 ? "j30;b9,70,3;b0,30,0;c"
                : "j30;b9,70,3;b9,70,3;c");
        }
        compare("13 ends", false, false, 0, 0, "");
        x = new WombatBowls();
        x.begin(1);
        Check.moves(x, "j30;b0,29,0;b9,70,3;b0,15,0;b9,70,3;b1,15,0;b9,70,3;b2,15,0;b9,70,3;c");
        x.keep(0);
        x.keep(1);
        compare("a match won", false, false, 1, 1, "");
    }

    /** Means of all kinds, so that their bits are told as by doubleToLongBits. */
    private static void bitsOfMeans() {
        for (int ends = 1; ends <= 30; ends++) {
            WombatBowls y = new WombatBowls();
            y.begin(50);
            y.changeBowls(1);
            for (int end = 0; end < ends; end++) {
                Check.moves(y, end * 7 % 5 < 3 ? "j30;b0,29,0;b9,70,3;c" : "j30;b9,70,3;b9,70,3;c");
            }
            x = y;
            compare(ends + " ends", false, false, 0, 0, "");
        }
    }

    private static void compare(String name, boolean back, boolean twice, int slot0, int slot1, String buffer) {
        long due = new DigestByHand(x).of(back, twice, slot0, slot1, buffer);
        Check.due("digest() of " + name, x.digest(), due);
        Check.due("digest() of " + name + ", again", x.digest(), due);
    }
}
