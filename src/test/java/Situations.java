import java.util.LinkedHashMap;
import java.util.Map;
import java.util.function.Supplier;

/** Objects at the places in a match where calls are allowed or refused; each call makes a new one. */
final class Situations {
    static final String OUT = "b9,70,3;";
    /** The jack comes to the ditch by its last bowl, the seventh of the end, and no bowl is a toucher. */
    static final String TO_BURN = "j50;b-7,45,3;b-7,67,3;b-8,52,3;b-8,70,3;b8,70,-3;b-3,58,1";
    static final String BURNT = TO_BURN + ";b-3,64,1";
    /** Likewise, but by the eighth bowl; bowls lie in the column 10 of the rows 40 and 41. */
    static final String BURNT_BY_LAST = "j50;b0,42,0;b0,70,0;b-4,40,2;b-5,55,2;b8,70,-3;b-8,70,3;b-3,58,1;b-3,64,1";
    /** Burnt by the eighth bowl, too; the bowl that was played first lies nearer to the jack than all of the other side. */
    static final String BURNT_AT_FIRST = "j50;b-5,49,2;b-5,63,2;b5,62,-2;b8,70,-3;b-8,70,3;b-5,60,2;b0,66,0;b-3,64,1";
    /** The jack is in the ditch by touchers, and one of them with it; four bowls of the end are played. */
    static final String TOUCHED = "j48;b5,58,-2;b0,70,0;b0,70,0;b0,70,0";
    /** A full buffer of 60 characters that tells moves. */
    static final String FULL_TEXT = "w-5;w-5;w-5;w-5;w-5;w-5;w-5;w-5;w-5;w-5;w-5;w-5;w-5;w5;w5;w1";

    /** What is in the buffer of all situations but a new object and a full buffer. */
    static final String TEXT = "w1;c";

    private Situations() {
    }

    static WombatBowls fresh() {
        return new WombatBowls();
    }

    /** Two ends in the accounts, a snapshot in the slot 1, a buffer that tells moves; four states, and the moves. */
    private static WombatBowls busy(String moves) {
        WombatBowls x = new WombatBowls();
        x.begin(30);
        x.changeBowls(1);
        Check.append(x, "j30;b0,29,0;b9,70,3;c;j30;b9,70,3;b1,30,0;c");
        x.playAll();
        x.keep(1);
        x.changeBowls(4);
        Check.moves(x, moves);
        Check.append(x, TEXT);
        return x;
    }

    static WombatBowls rolled() {
        return busy("j33");
    }

    static WombatBowls open() {
        return busy("w-1;j30;b1,30,0;b3,25,0;b9,70,3");
    }

    static WombatBowls oneToCome() {
        return busy("j40;b0,40,0;b1,38,0;b9,70,3;b2,30,0;b0,70,0;b1,40,-1;b-2,41,1");
    }

    static WombatBowls played() {
        return busy("j40;b0,40,0;b1,38,0;b9,70,3;b2,30,0;b0,70,0;b1,40,-1;b-2,41,1;b0,15,0");
    }

    static WombatBowls burnt() {
        return busy(BURNT);
    }

    static WombatBowls burntByLast() {
        return busy(BURNT_BY_LAST);
    }

    static WombatBowls touched() {
        return busy(TOUCHED);
    }

    static WombatBowls putBack() {
        WombatBowls x = busy(BURNT);
        x.turnBack();
        return x;
    }

    static WombatBowls putBackByLast() {
        WombatBowls x = busy(BURNT_BY_LAST);
        x.turnBack();
        return x;
    }

    /** Both slots are taken. */
    static WombatBowls over() {
        WombatBowls x = busy("w0");
        x.turnTwice();
        x.begin(2);
        x.changeBowls(1);
        x.keep(0);
        Check.moves(x, "j30;b0,29,0;" + OUT + "c;j30;b0,29,0;" + OUT + "c");
        return x;
    }

    static WombatBowls full() {
        WombatBowls x = new WombatBowls();
        Check.append(x, FULL_TEXT);
        return x;
    }

    static Map<String, Supplier<WombatBowls>> all() {
        Map<String, Supplier<WombatBowls>> found = new LinkedHashMap<>();
        found.put("a new object", Situations::fresh);
        found.put("a jack without bowls", Situations::rolled);
        found.put("an end that goes on", Situations::open);
        found.put("one bowl to come", Situations::oneToCome);
        found.put("all bowls are played", Situations::played);
        found.put("a burnt end", Situations::burnt);
        found.put("burnt by the last bowl", Situations::burntByLast);
        found.put("a jack in the ditch, touched", Situations::touched);
        found.put("a jack put back", Situations::putBack);
        found.put("a jack put back behind the last bowl", Situations::putBackByLast);
        found.put("a match that is over", Situations::over);
        found.put("a full buffer", Situations::full);
        return found;
    }
}
