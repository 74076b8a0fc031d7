import java.util.concurrent.Callable;

/** What the tests of the project share: they compare answers, and set up objects. */
abstract class Checks {
    static final String OUT = "IndexOutOfBoundsException";
    static final String ARGUMENT = "IllegalArgumentException";
    static final String STATE = "IllegalStateException";

    private static int wrong = 0;
    private static String sentence = "";

    interface Body {
        void run() throws Exception;
    }

    /** Runs the test of one sentence of the document; what goes wrong in it is told with the sentence. */
    static void sentence(String words, Body test) {
        sentence = words;
        try {
            test.run();
        } catch (Exception e) {
            tellWrong("the test's own calls", e.getClass().getSimpleName(), "no exception");
        }
        sentence = "";
    }

    static void due(String call, Object want, Callable<?> got) {
        Object answer;
        try {
            answer = got.call();
        } catch (Exception e) {
            answer = e.getClass().getSimpleName();
        }
        if (!want.equals(answer)) {
            tellWrong(call, answer, want);
        }
    }

    private static void tellWrong(String call, Object answer, Object want) {
        wrong++;
        String ahead = sentence.isEmpty() ? "" : sentence + " -- ";
        System.out.println(ahead + call + " answered " + answer + ", due is " + want);
    }

    static void finish() {
        System.out.println(wrong == 0 ? "all answers are as due" : wrong + " answers are not as due");
        if (wrong != 0) {
            System.exit(1);
        }
    }

    static ClayTraps with(int... swingsAndSteadinesses) {
        ClayTraps x = new ClayTraps();
        for (int i = 0; i < swingsAndSteadinesses.length; i += 2) {
            x.addGun(swingsAndSteadinesses[i], swingsAndSteadinesses[i + 1]);
        }
        return x;
    }

    /** The same, with all stands' clays at one angle. */
    static ClayTraps flat(int angle, int... swingsAndSteadinesses) {
        ClayTraps x = with(swingsAndSteadinesses);
        setAllTraps(x, angle, 0);
        return x;
    }

    static void setAllTraps(ClayTraps x, int base, int spread) {
        for (int stand = 0; stand < 5; stand++) {
            x.setTrap(stand, base, spread);
        }
    }

    /** As pass, which takes 1 to 50 turns, but for any number from 0. */
    static void passAll(ClayTraps x, int turns) {
        for (int left = turns; left > 0; left -= 50) {
            x.pass(Math.min(50, left));
        }
    }

    /** All that can be asked, in one text; some 125 calls with six guns. */
    static String everything(ClayTraps x) {
        StringBuilder all = new StringBuilder();
        all.append("turn ").append(x.turn()).append(", guns ").append(x.guns());
        all.append(", leader ").append(x.leader()).append(", tied ").append(x.tied());
        all.append(", wouldWin ").append(x.wouldWin()).append(", meanScore ").append(x.meanScore());
        all.append(", leaderIn ").append(x.leaderIn(1)).append(' ').append(x.leaderIn(7)).append(' ')
            .append(x.leaderIn(50));
        for (int stand = 0; stand < 5; stand++) {
            all.append(", stand ").append(stand).append(':');
            for (int clay = 0; clay < 5; clay++) {
                all.append(' ').append(x.angle(stand, clay));
            }
            all.append(" hardest ").append(x.hardestClay(stand));
        }
        for (int gun = 0; gun < x.guns(); gun++) {
            all.append(", gun ").append(gun).append(':');
            int[] told = {x.standOf(gun), x.angleFor(gun), x.scoreOf(gun), x.firstsOf(gun), x.missesOf(gun),
                x.fatigueOf(gun), x.wouldHit(gun), x.rankOf(gun), x.scoreIn(gun, 1), x.scoreIn(gun, 50),
                x.turnsUntilMiss(gun), x.bestRest(gun), x.swingWanted(gun)};
            for (int number : told) {
                all.append(' ').append(number);
            }
        }
        return all.append(", digest ").append(x.digest()).toString();
    }
}
