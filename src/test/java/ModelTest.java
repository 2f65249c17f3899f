import java.util.Arrays;
import java.util.concurrent.Callable;

/** Long runs of calls, the same ones each time, of the class and of the model side by side. */
public final class ModelTest {
    private static final int CALLS = 512;
    private static final int RUNS = 400;
    // a jack in the ditch without touchers, four touchers of the side 0 alone, a toucher in the ditch
    private static final String[] SCRIPTS = {
        "50 b0,40,0 b-7,45,3 b-7,67,3 b-8,52,3 b-8,70,3 b8,70,-3 b-3,58,1 b-3,64,1",
        "50 b-7,45,3 b-7,67,3 b-8,52,3 b-8,70,3 b8,70,-3 b-3,58,1 b-3,64,1",
        "50 b0,54,0 b9,70,3 b-8,52,3 b9,70,3 b8,64,-3 b9,70,3 b-3,58,1 b9,70,3",
        "48 b5,58,-2 b0,70,0 b0,70,0 b0,70,0",
    };
    private static final String[] TEXTS = {"j20", "j35", "j50", "b0,", "b1,34,-1", "b-2,50,1", "b0,70,0", "c", "w-3",
        "w0", ";", ";", ";", "b", "-", "0", "5", ",", "j", "w", "c;", "x", "~", "!"};

    private static long seed = 20261119;
    private static WombatBowls bowls;
    private static Model model;
    private static int made;
    private static final int[] seen = new int[12];

    public static void main(String[] args) {
        for (int run = 0; run < RUNS; run++) {
            bowls = new WombatBowls();
            model = new Model();
            made = 0;
            if (run % 8 == 4) {
                same("begin 50", () -> bowls.begin(50), () -> model.begin(50));
                same("changeBowls 1", () -> bowls.changeBowls(1), () -> model.changeBowls(1));
            }
            // a step may make some dozen calls
            while (made < CALLS - 30) {
                step(run);
                same("run " + run + ", digest", bowls::digest, model::digest);
                look(run);
                note();
            }
        }
        // the runs are of worth only if they come to what is rare
        String[] names = {"ends that are burnt", "jacks that are put back", "bowls in the ditch", "matches won",
            "more than 12 ends", "8 points in an end", "jack in the ditch, not burnt", "two touchers",
            "strikes of three things", "equal distances", "jacks put behind a bowl"};
        for (int kind = 0; kind < names.length; kind++) {
            Check.due(names[kind] + " were met", seen[kind] > 0, true);
        }
        System.out.println("met: " + Arrays.toString(seen));
        Check.end("ModelTest");
    }

    private static void note() {
        Model.Match now = model.now;
        long touchers = now.bowls.stream().filter(b -> b.toucher).count();
        seen[0] += now.burnt() ? 1 : 0;
        seen[1] += now.putBack > 0 ? 1 : 0;
        seen[2] += now.bowls.stream().anyMatch(b -> Model.fate(b) == 1) ? 1 : 0;
        seen[3] += now.over() ? 1 : 0;
        seen[4] += now.ends.size() > 12 ? 1 : 0;
        seen[5] += now.ends.stream().anyMatch(p -> Math.abs(p) == 8) ? 1 : 0;
        seen[6] += now.jack != null && now.jack.row == 60 && touchers > 0 ? 1 : 0;
        seen[7] += touchers > 1 ? 1 : 0;
        seen[8] += now.strikes > 2 ? 1 : 0;
        seen[10] += now.putBack > 0 && now.jack != null && now.jack.row > 40 && now.jack.row < 49 ? 1 : 0;
        seen[9] += now.jack != null && now.nearestOf(0) == now.nearestOf(1) && now.nearestOf(0) < 9999 ? 1 : 0;
    }

    private static int random(int least, int most) {
        seed = seed * 6364136223846793005L + 1442695040888963407L;
        return least + (int) Math.floorMod(seed >>> 33, (long) (most - least + 1));
    }

    private static Object answer(Callable<?> call) {
        try {
            return String.valueOf(call.call());
        } catch (Exception e) {
            return e.getClass();
        }
    }

    private static void same(String name, Callable<?> call, Callable<?> due) {
        made++;
        Check.due(name, answer(call), answer(due));
    }

    private static Callable<?> nothing(Runnable call) {
        return () -> {
            call.run();
            return 0;
        };
    }

    private static void step(int run) {
        int kind = random(0, 99);
        Model.Match now = model.now;
        if (run % 4 == 2 && kind < 6 && now.jack == null && !now.over() && now.each == 4) {
            playScript(SCRIPTS[random(0, SCRIPTS.length - 1)]);
        } else if (kind < 50) {
            boolean due = random(0, 9) > 0;
            if (due && now.jack == null && !now.over()) {
                rollSomehow();
            } else if (due && now.jack != null && !now.mayPlay()) {
                same("count", bowls::count, model::count);
            } else {
                playSomehow(run);
            }
        } else if (kind < 68) {
            rollSomehow();
        } else if (kind < 76) {
            same("count", bowls::count, model::count);
        } else if (kind < 90) {
            stepOfMatch(random(0, 30));
        } else {
            stepOfText();
        }
    }

    private static void playScript(String script) {
        String[] parts = script.split(" ");
        same("changeWind 0", () -> bowls.changeWind(0), () -> model.changeWind(0));
        int length = Integer.parseInt(parts[0]);
        same("roll " + length, () -> bowls.roll(length), () -> model.roll(length));
        for (int part = 1; part < parts.length; part++) {
            String[] numbers = parts[part].substring(1).split(",");
            int aim = Integer.parseInt(numbers[0]);
            int weight = Integer.parseInt(numbers[1]);
            int bias = Integer.parseInt(numbers[2]);
            same("play " + parts[part], () -> bowls.play(aim, weight, bias), () -> model.play(aim, weight, bias));
            note();
        }
        if (random(0, 2) == 0) {
            same("count", bowls::count, model::count);
        }
    }

    private static void rollSomehow() {
        int length = random(0, 9) == 0 ? random(18, 52) : random(0, 2) == 0 ? 50 : random(20, 50);
        same("roll " + length, () -> bowls.roll(length), () -> model.roll(length));
    }

    private static void playSomehow(int run) {
        int aim = random(0, 9) == 0 ? random(-10, 10) : random(-2, 2);
        int weight = random(0, 9) == 0 ? random(14, 71) : random(25, 60);
        int bias = random(0, 9) == 0 ? random(-4, 4) : random(-1, 1);
        if (run % 2 == 1 && model.now.mayPlay() && random(0, 9) > 0) {
            int[] best = pushing(run % 4 == 3);
            aim = best[0];
            weight = best[1];
            bias = best[2];
        }
        int a = aim;
        int w = weight;
        int b = bias;
        same("play " + a + " " + w + " " + b, () -> bowls.play(a, w, b), () -> model.play(a, w, b));
    }

    /** The play that brings the jack farthest: with touchers into the ditch, or by other bowls alone. */
    private static int[] pushing(boolean byTouchers) {
        int[] best = {0, 49, 0};
        int most = -1;
        for (int tries = 0; tries < 150; tries++) {
            int[] one = {random(-9, 9), random(0, 1) == 0 ? 70 : random(45, 70), random(-3, 3)};
            Model.Match trial = model.now.copy();
            trial.play(one[0], one[1], one[2]);
            boolean touched = trial.bowls.get(trial.bowls.size() - 1).toucher;
            int inDitch = (int) trial.bowls.stream().filter(b -> Model.fate(b) == 1).count();
            int worth = byTouchers ? inDitch * 5000 + (touched ? 1000 : 0) : touched ? -1 : 0;
            worth = worth < 0 ? -1 : worth + 100 * Math.max(trial.jack.row, trial.putBack > 0 ? 0 : 1);
            worth += worth < 0 ? 0 : trial.strikes * 10 + nearJack(trial);
            if (worth > most) {
                most = worth;
                best = one;
            }
        }
        return best;
    }

    private static int nearJack(Model.Match trial) {
        Model.Thing bowl = trial.bowls.get(trial.bowls.size() - 1);
        boolean behind = !bowl.dead && bowl.column == trial.jack.column && bowl.row < trial.jack.row;
        return behind ? 60 - (trial.jack.row - bowl.row) : 0;
    }

    private static void stepOfMatch(int kind) {
        int small = random(-1, 2);
        if (kind < 2) {
            int points = random(0, 3) == 0 ? random(0, 51) : random(20, 50);
            same("begin", () -> bowls.begin(points), () -> model.begin(points));
        } else if (kind < 7) {
            int each = random(0, 5);
            same("changeBowls", () -> bowls.changeBowls(each), () -> model.changeBowls(each));
        } else if (kind < 10) {
            int wind = random(-6, 6);
            same("changeWind", () -> bowls.changeWind(wind), () -> model.changeWind(wind));
        } else if (kind < 13) {
            same("turnBack", bowls::turnBack, model::turnBack);
        } else if (kind < 16) {
            same("turnTwice", bowls::turnTwice, model::turnTwice);
        } else if (kind < 20) {
            same("keep " + small, nothing(() -> bowls.keep(small)), nothing(() -> model.keep(small)));
        } else if (kind < 23) {
            same("goBack " + small, nothing(() -> bowls.goBack(small)), nothing(() -> model.goBack(small)));
        } else {
            same("undo", nothing(bowls::undo), nothing(model::undo));
        }
    }

    private static void stepOfText() {
        int kind = random(0, 9);
        if (kind < 6) {
            String text = TEXTS[random(0, TEXTS.length - 1)];
            for (char sign : text.toCharArray()) {
                same("append", () -> bowls.append(sign), () -> model.append(sign));
                same("firstError", bowls::firstError, model::firstError);
            }
        } else if (kind < 7) {
            same("clearBuffer", bowls::clearBuffer, model::clearBuffer);
        } else if (kind < 8) {
            int code = random(30, 129);
            same("append " + code, () -> bowls.append(code), () -> model.append(code));
        } else {
            same("playAll", bowls::playAll, model::playAll);
        }
    }

    private static void look(int run) {
        int bowl = random(-1, 8);
        int aim = random(-10, 10);
        int weight = random(14, 71);
        int bias = random(-4, 4);
        int steps = random(-1, weight + 1);
        switch (random(0, 11)) {
            case 0:
                same("bowlAt", () -> bowls.bowlAt(10 * bowl + 4, 10), () -> model.bowlAt(10 * bowl + 4, 10));
                break;
            case 1:
                same("wouldCount", () -> bowls.wouldCount(aim, weight, bias), () -> model.wouldCount(aim, weight, bias));
                break;
            case 2:
                same("wouldStrike", () -> bowls.wouldStrike(aim, weight, bias),
                    () -> model.wouldStrike(aim, weight, bias));
                break;
            case 3:
                same("bestWeight", () -> bowls.bestWeight(aim / 3, bias / 2), () -> model.bestWeight(aim / 3, bias / 2));
                break;
            case 4:
                same("curveBySteps", () -> bowls.curveBySteps(aim, weight, bias, steps),
                    () -> model.curve(aim, weight, bias, steps));
                break;
            case 5:
                same("curveByFormula", () -> bowls.curveByFormula(aim, weight, bias, steps),
                    () -> model.curve(aim, weight, bias, steps));
                break;
            case 6:
                same("nearest", () -> bowls.nearest(bowl), () -> model.nearest(bowl));
                break;
            case 7:
                same("leader", bowls::leader, model::leader);
                break;
            case 8:
                same("gap", bowls::gap, model::gap);
                break;
            case 9:
                same("meanPoints", bowls::meanPoints, model::meanPoints);
                break;
            case 10:
                if (run % 8 == 0) {
                    same("bestPlay", bowls::bestPlay, model::bestPlay);
                }
                break;
            default:
                same("firstError", bowls::firstError, model::firstError);
                break;
        }
    }
}
