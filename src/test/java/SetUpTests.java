/** A test of its own for each sentence of the promises 1 to 5, at the bounds that it names, worked out by hand. */
public final class SetUpTests extends Checks {
    public static void main(String[] args) {
        sentence("Promise 1: five stands", SetUpTests::fiveStands);
        sentence("Promise 1: without guns", SetUpTests::withoutGuns);
        sentence("Promise 1: ahead of the turn 0", SetUpTests::aheadOfTheTurn0);
        sentence("Promise 1: a new object beside one that is used", SetUpTests::besideAnother);
        sentence("Promise 2: Returns its number", SetUpTests::gunsNumber);
        sentence("Promise 2: its number behind refused calls", SetUpTests::numberBehindRefusedCalls);
        sentence("Promise 2: if swing is not 5 to 60", SetUpTests::swing);
        sentence("Promise 2: or steadiness is not 1 to 9", SetUpTests::steadiness);
        sentence("Promise 2: IllegalStateException if there are 6", SetUpTests::thereAreSix);
        sentence("Promise 3: Returns the base before", SetUpTests::baseBefore);
        sentence("Promise 3: its base and spread from now on", SetUpTests::fromNowOn);
        sentence("Promise 3: if stand is not 0 to 4", SetUpTests::stand);
        sentence("Promise 3: if base is not -45 to 45", SetUpTests::base);
        sentence("Promise 3: or spread is not 0 to 45", SetUpTests::spread);
        sentence("Promise 4: its fatigue is 0", SetUpTests::restIs0);
        sentence("Promise 4: Returns the fatigue before", SetUpTests::fatigueBefore);
        sentence("Promise 4: if there is no such gun", SetUpTests::noSuchGun);
        sentence("Promise 5: Lets turns go by", SetUpTests::turnsGoBy);
        sentence("Promise 5: Returns how many misses there are in them", SetUpTests::missesInThem);
        sentence("Promise 5: misses of no guns", SetUpTests::missesOfNoGuns);
        sentence("Promise 5: if turns is not 1 to 50", SetUpTests::turns);
        finish();
    }

    private static void fiveStands() {
        ClayTraps x = new ClayTraps();
        for (int stand = 0; stand < 5; stand++) {
            int s = stand;
            due("middle clay of " + s, 0, () -> x.angle(s, 2));
            due("last clay of " + s, 20, () -> x.angle(s, 4));
            due("hardest clay of " + s, 0, () -> x.hardestClay(s));
        }
        due("no stand -1", OUT, () -> x.angle(-1, 2));
        due("no stand 5", OUT, () -> x.angle(5, 2));
    }

    private static void withoutGuns() {
        ClayTraps x = new ClayTraps();
        due("guns", 0, x::guns);
        due("leader", -1, x::leader);
        due("tied", 0, x::tied);
        due("wouldWin", -1, x::wouldWin);
        due("leaderIn", -1, () -> x.leaderIn(1));
        due("meanScore", 0.0, x::meanScore);
        due("shootOff", STATE, x::shootOff);
        due("scoreOf", OUT, () -> x.scoreOf(0));
    }

    private static void aheadOfTheTurn0() {
        ClayTraps x = new ClayTraps();
        due("turn", 0, x::turn);
        x.pass(1);
        due("turn behind 1", 1, x::turn);
    }

    private static void besideAnother() {
        ClayTraps x = new ClayTraps();
        String atFirst = everything(x);
        ClayTraps used = with(20, 1, 20, 1);
        used.setTrap(0, 9, 9);
        used.pass(7);
        due("the object beside it", atFirst, () -> everything(x));
        due("guns of a new one", 0, () -> new ClayTraps().guns());
        due("turn of a new one", 0, () -> new ClayTraps().turn());
        due("angle of a new one", 20, () -> new ClayTraps().angle(0, 4));
        due("guns of the used one", 2, used::guns);
    }

    private static void gunsNumber() {
        ClayTraps x = new ClayTraps();
        for (int gun = 0; gun < 6; gun++) {
            int g = gun;
            due("addGun", g, () -> x.addGun(20 + g, 1 + g));
            x.pass(3);
        }
    }

    private static void numberBehindRefusedCalls() {
        ClayTraps x = new ClayTraps();
        due("swing 4", ARGUMENT, () -> x.addGun(4, 1));
        due("the first", 0, () -> x.addGun(20, 1));
        due("steadiness 10", ARGUMENT, () -> x.addGun(20, 10));
        due("the second", 1, () -> x.addGun(20, 1));
        due("guns", 2, x::guns);
    }

    private static void swing() {
        ClayTraps x = new ClayTraps();
        int[] outside = {4, 61, 0, -5, -60, Integer.MIN_VALUE, Integer.MAX_VALUE};
        for (int swing : outside) {
            due("swing " + swing, ARGUMENT, () -> x.addGun(swing, 1));
        }
        due("swing 5", 0, () -> x.addGun(5, 1));
        due("swing 60", 1, () -> x.addGun(60, 1));
    }

    private static void steadiness() {
        ClayTraps x = new ClayTraps();
        int[] outside = {0, 10, -1, -9, Integer.MIN_VALUE, Integer.MAX_VALUE};
        for (int steadiness : outside) {
            due("steadiness " + steadiness, ARGUMENT, () -> x.addGun(20, steadiness));
        }
        due("steadiness 1", 0, () -> x.addGun(20, 1));
        due("steadiness 9", 1, () -> x.addGun(20, 9));
        due("both wrong", ARGUMENT, () -> x.addGun(61, 0));
    }

    private static void thereAreSix() {
        ClayTraps x = with(20, 1, 20, 1, 20, 1, 20, 1, 20, 1);
        due("the sixth", 5, () -> x.addGun(20, 1));
        due("the seventh", STATE, () -> x.addGun(20, 1));
        due("the seventh again", STATE, () -> x.addGun(60, 9));
        x.pass(1);
        due("the seventh, later", STATE, () -> x.addGun(5, 1));
    }

    private static void baseBefore() {
        for (int stand = 0; stand < 5; stand++) {
            int s = stand;
            ClayTraps x = new ClayTraps();
            due("at first, " + s, 0, () -> x.setTrap(s, -45, 7));
            due("least, " + s, -45, () -> x.setTrap(s, 45, 8));
            due("greatest, " + s, 45, () -> x.setTrap(s, 3, 9));
            due("the same again, " + s, 3, () -> x.setTrap(s, 3, 9));
            due("the last one, " + s, 3, () -> x.setTrap(s, 0, 0));
        }
    }

    private static void fromNowOn() {
        ClayTraps x = with(20, 9);
        x.pass(1);
        x.setTrap(0, 30, 0);
        due("what was before stays", 2, () -> x.scoreOf(0));
        due("the clay now", 30, () -> x.angleFor(0));
        due("a miss from now on", 1, () -> x.pass(1));
        x.setTrap(0, 0, 0);
        due("none from now on", 0, () -> x.pass(1));
        due("the other stands stay", -20, () -> x.angle(1, 0));
    }

    private static void stand() {
        ClayTraps x = new ClayTraps();
        int[] outside = {-1, 5, Integer.MIN_VALUE, Integer.MAX_VALUE};
        for (int stand : outside) {
            due("stand " + stand, OUT, () -> x.setTrap(stand, 0, 20));
        }
        due("stand 0", 0, () -> x.setTrap(0, 0, 20));
        due("stand 4", 0, () -> x.setTrap(4, 0, 20));
    }

    private static void base() {
        ClayTraps x = new ClayTraps();
        int[] outside = {-46, 46, Integer.MIN_VALUE, Integer.MAX_VALUE};
        for (int base : outside) {
            due("base " + base, ARGUMENT, () -> x.setTrap(4, base, 20));
        }
        due("base -45", 0, () -> x.setTrap(4, -45, 20));
        due("base 45", -45, () -> x.setTrap(4, 45, 20));
    }

    private static void spread() {
        ClayTraps x = new ClayTraps();
        int[] outside = {-1, 46, -45, Integer.MIN_VALUE, Integer.MAX_VALUE};
        for (int spread : outside) {
            due("spread " + spread, ARGUMENT, () -> x.setTrap(4, 0, spread));
        }
        due("spread 0", 0, () -> x.setTrap(4, 1, 0));
        due("spread 45", 1, () -> x.setTrap(4, 0, 45));
    }

    private static void restIs0() {
        ClayTraps x = flat(0, 60, 9, 60, 9, 60, 9, 60, 9, 60, 9, 60, 9);
        x.pass(4);
        x.rest(0);
        x.rest(5);
        int[] fatigues = {0, 4, 4, 4, 4, 0};
        for (int gun = 0; gun < 6; gun++) {
            int g = gun;
            due("fatigue of " + g, fatigues[g], () -> x.fatigueOf(g));
            due("score of " + g, 8, () -> x.scoreOf(g));
        }
        due("turn", 4, x::turn);
    }

    private static void fatigueBefore() {
        ClayTraps x = flat(0, 60, 9, 60, 9);
        due("of a new gun", 0, () -> x.rest(0));
        x.pass(3);
        due("behind 3 turns", 3, () -> x.rest(0));
        due("rested", 0, () -> x.rest(0));
        x.pass(1);
        due("behind 1 turn more", 1, () -> x.rest(0));
        due("of the other one", 4, () -> x.rest(1));
    }

    private static void noSuchGun() {
        ClayTraps x = new ClayTraps();
        due("0 of none", OUT, () -> x.rest(0));
        due("-1 of none", OUT, () -> x.rest(-1));
        for (int gun = 0; gun < 6; gun++) {
            int g = gun;
            due(g + ", ahead of it", OUT, () -> x.rest(g));
            x.addGun(20, 1);
            due(g + ", with it", 0, () -> x.rest(g));
        }
        int[] outside = {-1, 6, Integer.MIN_VALUE, Integer.MAX_VALUE};
        for (int gun : outside) {
            due(gun + " of 6", OUT, () -> x.rest(gun));
        }
    }

    private static void turnsGoBy() {
        ClayTraps x = flat(0, 60, 9);
        x.pass(1);
        due("score behind 1", 2, () -> x.scoreOf(0));
        due("turn behind 1", 1, x::turn);
        x.pass(50);
        due("score behind 51", 102, () -> x.scoreOf(0));
        due("turn behind 51", 51, x::turn);
    }

    private static void missesInThem() {
        ClayTraps x = flat(45, 5, 1);
        due("1 turn of 1 gun", 1, () -> x.pass(1));
        due("50 turns of 1 gun, not those before", 50, () -> x.pass(50));
        due("1 turn again", 1, () -> x.pass(1));
        ClayTraps six = flat(45, 5, 1, 5, 1, 5, 1, 5, 1, 5, 1, 60, 9);
        due("1 turn of 6 guns, where one hits", 5, () -> six.pass(1));
        due("50 turns of 6 guns, where one hits", 250, () -> six.pass(50));
        // In five turns: two first barrels, two second ones, and, at the angle 11, a miss.
        ClayTraps second = new ClayTraps();
        setAllTraps(second, 9, 2);
        second.addGun(10, 1);
        due("a second barrel is no miss", 1, () -> second.pass(5));
    }

    private static void missesOfNoGuns() {
        ClayTraps x = new ClayTraps();
        due("1 turn", 0, () -> x.pass(1));
        due("50 turns", 0, () -> x.pass(50));
        due("turn", 51, x::turn);
    }

    private static void turns() {
        ClayTraps x = with(20, 1);
        int[] outside = {0, 51, -1, -50, Integer.MIN_VALUE, Integer.MAX_VALUE};
        for (int turns : outside) {
            due("turns " + turns, ARGUMENT, () -> x.pass(turns));
        }
        due("turn", 0, x::turn);
        x.pass(1);
        due("turn behind 1", 1, x::turn);
        x.pass(50);
        due("turn behind 50 more", 51, x::turn);
        due("turns 51 without guns", ARGUMENT, () -> new ClayTraps().pass(51));
        due("turns 0 without guns", ARGUMENT, () -> new ClayTraps().pass(0));
    }
}
