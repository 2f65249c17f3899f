/** Promises 44 to 47: what a bowl would bring. */
public final class WouldTest {
    public static void main(String[] args) {
        wouldCount();
        wouldCountPutBack();
        wouldStrike();
        bestWeight();
        bestPlay();
        bestOfAll();
        wrong();
        Check.end("WouldTest");
    }

    private static void wouldCount() {
        WombatBowls x = new WombatBowls();
        x.roll(30);
        Check.due("wouldCount(0, 29, 0)", x.wouldCount(0, 29, 0), 1);
        Check.due("wouldCount(9, 70, 3), it would be dead", x.wouldCount(9, 70, 3), 0);
        x.play(0, 25, 0);
        Check.due("wouldCount(9, 70, 3), for the other side", x.wouldCount(9, 70, 3), -1);
        Check.due("wouldCount(-1, 30, 0), for the side 1", x.wouldCount(-1, 30, 0), 1);
        Check.due("wouldCount(-1, 40, 0), farther", x.wouldCount(-1, 40, 0), -1);
        x.play(-1, 30, 0);
        x.play(9, 70, 3);
        Check.due("wouldCount(1, 31, 0), two", x.wouldCount(1, 31, 0), 2);
        x.play(9, 70, 3);
        Check.due("leader()", x.leader(), 1);
        Check.due("wouldCount(9, 70, 3), for the side 0", x.wouldCount(9, 70, 3), -1);
        Check.due("bowls(), nothing is changed", x.bowls(), 4);
        WombatBowls y = new WombatBowls();
        y.turnTwice();
        y.roll(30);
        Check.due("wouldCount, a toucher twice", y.wouldCount(0, 30, 0), 2);
        Check.due("touchers()", y.touchers(), 0);
        Check.due("played()", y.played(), 0);
    }

    private static void wouldCountPutBack() {
        WombatBowls x = new WombatBowls();
        Check.moves(x, "j50;b-7,45,3;b-7,67,3;b-8,52,3;b-8,70,3;b8,70,-3;b-3,58,1");
        Check.due("wouldCount, it would be burnt", x.wouldCount(-3, 64, 1), 0);
        Check.due("wouldStrike", x.wouldStrike(-3, 64, 1) > 0, true);
        x.turnBack();
        int would = x.wouldCount(-3, 64, 1);
        int side = x.turn();
        Check.due("putBack(), nothing is changed", x.putBack(), 0);
        x.play(-3, 64, 1);
        Check.due("putBack()", x.putBack(), 1);
        Check.due("wouldCount, the jack put back", would, x.leader() == side ? x.pointsByPairs() : -x.pointsByPairs());
        Check.due("it counts something", would != 0, true);
    }

    private static void wouldStrike() {
        WombatBowls x = new WombatBowls();
        x.roll(30);
        Check.due("wouldStrike(0, 29, 0)", x.wouldStrike(0, 29, 0), 0);
        Check.due("wouldStrike(0, 30, 0), the jack", x.wouldStrike(0, 30, 0), 1);
        x.play(0, 29, 0);
        Check.due("wouldStrike(0, 28, 0)", x.wouldStrike(0, 28, 0), 0);
        Check.due("wouldStrike(0, 29, 0), none are left", x.wouldStrike(0, 29, 0), 1);
        Check.due("wouldStrike(0, 30, 0), half of 1", x.wouldStrike(0, 30, 0), 1);
        Check.due("wouldStrike(0, 31, 0), half of 2", x.wouldStrike(0, 31, 0), 2);
        x.play(0, 20, 0);
        // 49 are left at 20: 24 for the bowl 1, which strikes at 29 with 15 left, so that 7 strike the jack
        Check.due("wouldStrike(0, 69, 0)", x.wouldStrike(0, 69, 0), 3);
        Check.due("wouldStrike(9, 70, 3), out", x.wouldStrike(9, 70, 3), 0);
    }

    private static void bestWeight() {
        WombatBowls x = new WombatBowls();
        x.roll(30);
        Check.due("bestWeight(0, 0), any counts", x.bestWeight(0, 0), 15);
        // out at the step 9
        Check.due("bestWeight(9, 3), none counts", x.bestWeight(9, 3), 15);
        x.play(0, 25, 0);
        // from 27 on the bowl 0 is struck at 25: the other one stays at 24
        Check.due("bestWeight(0, 0)", x.bestWeight(0, 0), most(x, 0, 0));
        Check.due("bestWeight(1, 0)", x.bestWeight(1, 0), most(x, 1, 0));
        Check.due("bestWeight(1, 0) is nearer", x.wouldCount(1, x.bestWeight(1, 0), 0), 1);
        Check.due("one less is as near as the bowl 0", x.wouldCount(1, x.bestWeight(1, 0) - 1, 0), 0);
        Check.due("bestWeight(1, 0), 9 and 9 against 25", x.bestWeight(1, 0), 27);
        x.turnTwice();
        Check.due("bestWeight(-2, 1)", x.bestWeight(-2, 1), most(x, -2, 1));
        Check.due("savedStates()", x.savedStates(), 3);
    }

    private static int most(WombatBowls x, int aim, int bias) {
        int best = 15;
        for (int weight = 16; weight <= 70; weight++) {
            if (x.wouldCount(aim, weight, bias) > x.wouldCount(aim, best, bias)) {
                best = weight;
            }
        }
        return best;
    }

    private static void bestPlay() {
        WombatBowls x = new WombatBowls();
        x.roll(30);
        Check.due("bestPlay(), any counts", x.bestPlay(), 15);
        x.turnTwice();
        int best = x.bestPlay();
        Check.due("bestPlay(), a toucher counts 2", x.wouldCount(best / 1000 - 2, best % 100, best / 100 % 10 - 1), 2);
        x.play(best / 1000 - 2, best % 100, best / 100 % 10 - 1);
        Check.due("isToucher(0)", x.isToucher(0), true);
        Check.due("savedStates()", x.savedStates(), 3);
    }

    /** The first one of the greatest, in the order of the aim, the bias and the weight. */
    private static void bestOfAll() {
        String[] moves = {"j30;b0,29,0", "j44;b1,30,0;b-2,44,1", "w2;j50;b0,20,0;b-2,50,0;b-2,49,0",
            "j25;b0,25,0;b0,30,0;b0,35,0"};
        for (String text : moves) {
            int best = 0;
            int most = -9;
            for (int aim = -2; aim <= 2; aim++) {
                for (int bias = -1; bias <= 1; bias++) {
                    // an object is promised for 512 calls alone
                    WombatBowls y = new WombatBowls();
                    Check.moves(y, text);
                    for (int weight = 15; weight <= 70; weight++) {
                        int points = y.wouldCount(aim, weight, bias);
                        if (points > most) {
                            most = points;
                            best = 1000 * (aim + 2) + 100 * (bias + 1) + weight;
                        }
                    }
                }
            }
            WombatBowls x = new WombatBowls();
            Check.moves(x, text);
            long before = x.digest();
            Check.due("bestPlay() behind " + text, x.bestPlay(), best);
            Check.due("digest(), nothing is changed", x.digest(), before);
        }
    }

    private static void wrong() {
        WombatBowls x = new WombatBowls();
        // first without a jack, then with one: wrong numbers are named first
        for (int times = 0; times < 2; times++) {
            int[][] wrong = {{10, 30, 0}, {-10, 30, 0}, {0, 14, 0}, {0, 71, 0}, {0, 30, 4}, {0, 30, -4}};
            for (int[] one : wrong) {
                Check.thrown("wouldCount", x, Check.ARGUMENT, () -> x.wouldCount(one[0], one[1], one[2]));
                Check.thrown("wouldStrike", x, Check.ARGUMENT, () -> x.wouldStrike(one[0], one[1], one[2]));
                if (one[1] == 30) {
                    Check.thrown("bestWeight", x, Check.ARGUMENT, () -> x.bestWeight(one[0], one[2]));
                }
            }
            if (times == 0) {
                noBowl(x);
                x.changeBowls(1);
                x.roll(30);
            }
        }
        x.play(0, 20, 0);
        x.play(0, 20, 0);
        noBowl(x);
    }

    private static void noBowl(WombatBowls x) {
        Check.thrown("wouldCount, no bowl", x, Check.STATE, () -> x.wouldCount(0, 30, 0));
        Check.thrown("wouldStrike, no bowl", x, Check.STATE, () -> x.wouldStrike(0, 30, 0));
        Check.thrown("bestWeight, no bowl", x, Check.STATE, () -> x.bestWeight(0, 0));
        Check.thrown("bestPlay, no bowl", x, Check.STATE, () -> x.bestPlay());
    }
}
