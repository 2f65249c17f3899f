import java.util.concurrent.Callable;

/** What the tests have in common: it prints each answer that is not due, and counts them. */
final class Check {
    static final Class<? extends RuntimeException> ARGUMENT = IllegalArgumentException.class;
    static final Class<? extends RuntimeException> STATE = IllegalStateException.class;
    static final Class<? extends RuntimeException> INDEX = IndexOutOfBoundsException.class;

    private static int wrong = 0;

    private Check() {
    }

    static void due(String call, Object got, Object want) {
        if (!want.equals(got)) {
            wrong++;
            System.out.println(call + " answered " + got + ", due is " + want);
        }
    }

    /** The call must throw exactly this class, by a throw of its own, and change nothing. */
    static void thrown(String name, WombatBowls bowls, Class<? extends RuntimeException> want, Callable<?> call) {
        long before = bowls.digest();
        Object got;
        try {
            got = call.call();
        } catch (Exception e) {
            got = e.getClass();
        }
        due(name, got, want);
        due(name + ", then digest()", bowls.digest(), before);
    }

    static void thrown(String name, WombatBowls bowls, Class<? extends RuntimeException> want, Runnable call) {
        thrown(name, bowls, want, () -> {
            call.run();
            return "nothing thrown";
        });
    }

    static void append(WombatBowls bowls, String text) {
        for (char sign : text.toCharArray()) {
            bowls.append(sign);
        }
    }

    /** Makes moves that are told as a text of any length, by the calls themselves. */
    static void moves(WombatBowls bowls, String text) {
        for (String part : text.split(";")) {
            String[] numbers = part.substring(1).split(",");
            if (part.charAt(0) == 'j') {
                bowls.roll(Integer.parseInt(numbers[0]));
            } else if (part.charAt(0) == 'b') {
                bowls.play(Integer.parseInt(numbers[0]), Integer.parseInt(numbers[1]), Integer.parseInt(numbers[2]));
            } else if (part.charAt(0) == 'c') {
                bowls.count();
            } else {
                bowls.changeWind(Integer.parseInt(numbers[0]));
            }
        }
    }

    static void end(String test) {
        System.out.println(test + ": " + (wrong == 0 ? "all answers are as due" : wrong + " answers are not as due"));
        if (wrong != 0) {
            System.exit(1);
        }
    }
}
