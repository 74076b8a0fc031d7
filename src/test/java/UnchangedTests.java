import java.util.ArrayList;
import java.util.List;

/**
 * "A method that throws an exception changes nothing", and what is asked does not, either: of two objects with the same
 * calls behind them one takes the call, too, and then both answer alike whatever can be asked, now and later.
 */
public final class UnchangedTests extends Checks {
    private static final int[] WRONG_STANDS = {-1, 5, Integer.MIN_VALUE, Integer.MAX_VALUE};
    private static final int[] WRONG_TURNS = {0, 51, -1, Integer.MIN_VALUE, Integer.MAX_VALUE};

    private interface Call {
        Object on(ClayTraps x);
    }

    private interface GunCall {
        Object on(ClayTraps x, int gun);
    }

    public static void main(String[] args) {
        sentence("A method that throws changes nothing: addGun, wrong arguments", UnchangedTests::addGunRefused);
        sentence("A method that throws changes nothing: addGun, there are 6", UnchangedTests::addGunAtSix);
        sentence("A method that throws changes nothing: setTrap, wrong stand", UnchangedTests::setTrapNoStand);
        sentence("A method that throws changes nothing: setTrap, wrong base", UnchangedTests::setTrapBase);
        sentence("A method that throws changes nothing: setTrap, wrong spread", UnchangedTests::setTrapSpread);
        sentence("A method that throws changes nothing: pass", UnchangedTests::passRefused);
        sentence("A method that throws changes nothing: shootOff", UnchangedTests::shootOffRefused);
        sentence("A method that throws changes nothing: angle", UnchangedTests::angleRefused);
        sentence("A method that throws changes nothing: hardestClay", UnchangedTests::hardestClayRefused);
        refusedGuns("rest", ClayTraps::rest);
        refusedGuns("standOf", ClayTraps::standOf);
        refusedGuns("angleFor", ClayTraps::angleFor);
        refusedGuns("scoreOf", ClayTraps::scoreOf);
        refusedGuns("firstsOf", ClayTraps::firstsOf);
        refusedGuns("missesOf", ClayTraps::missesOf);
        refusedGuns("fatigueOf", ClayTraps::fatigueOf);
        refusedGuns("wouldHit", ClayTraps::wouldHit);
        refusedGuns("rankOf", ClayTraps::rankOf);
        refusedGuns("scoreIn", (x, gun) -> x.scoreIn(gun, 7));
        refusedGuns("turnsUntilMiss", ClayTraps::turnsUntilMiss);
        refusedGuns("bestRest", ClayTraps::bestRest);
        refusedGuns("swingWanted", ClayTraps::swingWanted);
        sentence("A method that throws changes nothing: scoreIn, wrong turns", UnchangedTests::scoreInRefused);
        sentence("A method that throws changes nothing: leaderIn", UnchangedTests::leaderInRefused);
        askedGuns("standOf, that returns only", ClayTraps::standOf);
        askedGuns("angleFor, that returns only", ClayTraps::angleFor);
        askedGuns("scoreOf, that returns only", ClayTraps::scoreOf);
        askedGuns("firstsOf, that returns only", ClayTraps::firstsOf);
        askedGuns("missesOf, that returns only", ClayTraps::missesOf);
        askedGuns("fatigueOf, that returns only", ClayTraps::fatigueOf);
        askedGuns("Promise 17, nothing is changed: wouldHit", ClayTraps::wouldHit);
        askedGuns("rankOf, that returns only", ClayTraps::rankOf);
        askedGuns("Promise 21, nothing is changed: scoreIn", (x, gun) -> x.scoreIn(gun, 1) + x.scoreIn(gun, 50));
        askedGuns("Promise 22, nothing is changed: turnsUntilMiss", ClayTraps::turnsUntilMiss);
        askedGuns("Promise 25, nothing is changed: bestRest", ClayTraps::bestRest);
        askedGuns("swingWanted, that returns only", ClayTraps::swingWanted);
        asked("Promise 23, nothing is changed: leaderIn", x -> x.leaderIn(1) + x.leaderIn(50));
        asked("Promise 24, nothing is changed: wouldWin", ClayTraps::wouldWin);
        asked("turn, that returns only", ClayTraps::turn);
        asked("guns, that returns only", ClayTraps::guns);
        asked("leader, that returns only", ClayTraps::leader);
        asked("tied, that returns only", ClayTraps::tied);
        asked("meanScore, that returns only", ClayTraps::meanScore);
        asked("digest, that computes only", ClayTraps::digest);
        asked("angle, that returns only", x -> x.angle(0, 0) + x.angle(4, 4));
        asked("hardestClay, that returns only", x -> x.hardestClay(0) + x.hardestClay(4));
        finish();
    }

    // ---- the states in which calls are tried; each is made anew for each call

    private static final int STATES = 7;

    private static ClayTraps state(int number) {
        switch (number) {
            case 0:
                return new ClayTraps();
            case 1:
                return withoutGunsLater();
            case 2:
                return played(1);
            case 3:
                return tiredTie();
            case 4:
                return played(6);
            case 5:
                return with(18, 1, 18, 2, 18, 3, 18, 4, 18, 5, 18, 9);
            default:
                return beforeTheWalk();
        }
    }

    private static ClayTraps withoutGunsLater() {
        ClayTraps x = new ClayTraps();
        x.setTrap(0, 45, 45);
        x.setTrap(4, -45, 1);
        x.pass(23);
        return x;
    }

    private static ClayTraps played(int guns) {
        int[] all = {18, 1, 22, 2, 40, 9, 5, 1, 20, 3, 20, 5};
        ClayTraps x = new ClayTraps();
        for (int gun = 0; gun < guns; gun++) {
            x.addGun(all[2 * gun], all[2 * gun + 1]);
        }
        x.setTrap(1, 17, 25);
        x.setTrap(2, 6, 9);
        x.setTrap(4, -33, 3);
        x.pass(13);
        x.shootOff();
        return x;
    }

    private static ClayTraps tiredTie() {
        ClayTraps x = flat(0, 30, 1, 30, 1);
        x.pass(12);
        x.rest(1);
        x.setTrap(2, -20, 20);
        return x;
    }

    private static ClayTraps beforeTheWalk() {
        ClayTraps x = with(20, 1, 15, 3, 9, 2);
        x.pass(24);
        return x;
    }

    // ---- what is done with them

    private static void refused(String told, String exception, Call call, int... states) {
        for (int state : states) {
            ClayTraps x = state(state);
            due(told + " in the state " + state, exception, () -> call.on(x));
            unchanged(told, state, x);
        }
    }

    private static void refusedEverywhere(String told, String exception, Call call) {
        refused(told, exception, call, 0, 1, 2, 3, 4, 5, 6);
    }

    private static void unchanged(String told, int state, ClayTraps x) {
        ClayTraps twin = state(state);
        due(told + ", all answers in the state " + state, everything(twin), () -> everything(x));
        due(told + ", misses later in the state " + state, twin.pass(7), () -> x.pass(7));
        if (twin.guns() > 0) {
            due(told + ", winner later in the state " + state, twin.shootOff(), x::shootOff);
        }
        due(told + ", all answers later in the state " + state, everything(twin), () -> everything(x));
    }

    private static void refusedGuns(String name, GunCall call) {
        sentence("A method that throws changes nothing: " + name, () -> {
            for (int state = 0; state < STATES; state++) {
                int guns = state(state).guns();
                List<Integer> wrong = new ArrayList<>(List.of(-1, guns, Integer.MIN_VALUE, Integer.MAX_VALUE));
                if (guns < 5) {
                    wrong.add(5);
                }
                for (int gun : wrong) {
                    refused(name + " of " + gun, OUT, x -> call.on(x, gun), state);
                }
            }
        });
    }

    private static void askedGuns(String words, GunCall call) {
        sentence(words, () -> {
            for (int state = 0; state < STATES; state++) {
                int guns = state(state).guns();
                for (int gun = 0; gun < guns; gun++) {
                    int g = gun;
                    askedIn(state, "asked of " + g, x -> call.on(x, g));
                }
            }
        });
    }

    private static void asked(String words, Call call) {
        sentence(words, () -> {
            for (int state = 0; state < STATES; state++) {
                askedIn(state, "asked", call);
            }
        });
    }

    private static void askedIn(int state, String told, Call call) {
        ClayTraps x = state(state);
        Object first = call.on(x);
        due(told + " twice in the state " + state, first, () -> call.on(x));
        unchanged(told, state, x);
    }

    // ---- what is refused

    private static void addGunRefused() {
        int[][] wrong = {{4, 1}, {61, 9}, {5, 0}, {60, 10}, {4, 0}, {Integer.MIN_VALUE, 5}, {20, Integer.MAX_VALUE}};
        for (int[] pair : wrong) {
            refusedEverywhere("addGun " + pair[0] + " " + pair[1], ARGUMENT, x -> x.addGun(pair[0], pair[1]));
        }
    }

    private static void addGunAtSix() {
        refused("addGun 5 1", STATE, x -> x.addGun(5, 1), 4, 5);
        refused("addGun 60 9", STATE, x -> x.addGun(60, 9), 4, 5);
    }

    private static void setTrapNoStand() {
        for (int stand : WRONG_STANDS) {
            refusedEverywhere("setTrap " + stand, OUT, x -> x.setTrap(stand, 11, 12));
        }
    }

    private static void setTrapBase() {
        int[] wrong = {-46, 46, Integer.MIN_VALUE, Integer.MAX_VALUE};
        for (int base : wrong) {
            refusedEverywhere("setTrap, first, base " + base, ARGUMENT, x -> x.setTrap(0, base, 12));
            refusedEverywhere("setTrap, last, base " + base, ARGUMENT, x -> x.setTrap(4, base, 12));
        }
    }

    private static void setTrapSpread() {
        int[] wrong = {-1, 46, Integer.MIN_VALUE, Integer.MAX_VALUE};
        for (int spread : wrong) {
            refusedEverywhere("setTrap, first, spread " + spread, ARGUMENT, x -> x.setTrap(0, 11, spread));
            refusedEverywhere("setTrap, last, spread " + spread, ARGUMENT, x -> x.setTrap(4, 11, spread));
        }
    }

    private static void passRefused() {
        for (int turns : WRONG_TURNS) {
            refusedEverywhere("pass " + turns, ARGUMENT, x -> x.pass(turns));
        }
    }

    private static void shootOffRefused() {
        refused("shootOff", STATE, ClayTraps::shootOff, 0, 1);
    }

    private static void angleRefused() {
        for (int n : WRONG_STANDS) {
            refusedEverywhere("angle, stand " + n, OUT, x -> x.angle(n, 0));
            refusedEverywhere("angle, clay " + n, OUT, x -> x.angle(0, n));
        }
    }

    private static void hardestClayRefused() {
        for (int stand : WRONG_STANDS) {
            refusedEverywhere("hardestClay " + stand, OUT, x -> x.hardestClay(stand));
        }
    }

    private static void scoreInRefused() {
        for (int turns : WRONG_TURNS) {
            refused("scoreIn " + turns, ARGUMENT, x -> x.scoreIn(0, turns), 2, 3, 4, 5, 6);
        }
    }

    private static void leaderInRefused() {
        for (int turns : WRONG_TURNS) {
            refusedEverywhere("leaderIn " + turns, ARGUMENT, x -> x.leaderIn(turns));
        }
    }
}
