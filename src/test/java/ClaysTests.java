/** A test of its own for each sentence of the promises 7 to 11, at the bounds that it names, worked out by hand. */
public final class ClaysTests extends Checks {
    public static void main(String[] args) {
        sentence("Promise 7: Returns the turn", ClaysTests::turn);
        sentence("Promise 8: Returns its angle there", ClaysTests::angle);
        sentence("Promise 8: if stand is not 0 to 4", ClaysTests::angleOfNoStand);
        sentence("Promise 8: or clay is not 0 to 4", ClaysTests::angleOfNoClay);
        sentence("Promise 9: the clay with the greatest amount of its angle", ClaysTests::hardestClay);
        sentence("Promise 9: of several the smallest number", ClaysTests::hardestOfSeveral);
        sentence("Promise 9: if stand is not 0 to 4", ClaysTests::hardestOfNoStand);
        sentence("Promise 10: Returns its stand in this turn", ClaysTests::standOf);
        sentence("Promise 10: if there is no such gun", ClaysTests::standOfNoGun);
        sentence("Promise 11: the angle at which its clay comes in this turn", ClaysTests::angleFor);
        sentence("Promise 11: if there is no such gun", ClaysTests::angleForNoGun);
        finish();
    }

    private static void turn() {
        ClayTraps x = new ClayTraps();
        due("at first", 0, x::turn);
        x.pass(1);
        due("behind 1", 1, x::turn);
        x.pass(50);
        due("behind 51", 51, x::turn);
        x.addGun(20, 1);
        x.shootOff();
        x.rest(0);
        x.setTrap(0, 1, 1);
        due("behind other calls", 51, x::turn);
    }

    private static void angle() {
        ClayTraps x = new ClayTraps();
        x.setTrap(0, -45, 45);
        x.setTrap(4, 45, 45);
        due("least", -90, () -> x.angle(0, 0));
        due("last clay of the stand 0", 0, () -> x.angle(0, 4));
        due("first clay of the stand 4", 0, () -> x.angle(4, 0));
        due("greatest", 90, () -> x.angle(4, 4));
        due("between", -10, () -> x.angle(2, 1));
        x.pass(7);
        due("in any turn", 90, () -> x.angle(4, 4));
    }

    private static void angleOfNoStand() {
        ClayTraps x = new ClayTraps();
        int[] outside = {-1, 5, Integer.MIN_VALUE, Integer.MAX_VALUE};
        for (int stand : outside) {
            due("stand " + stand + ", clay 0", OUT, () -> x.angle(stand, 0));
            due("stand " + stand + ", clay 4", OUT, () -> x.angle(stand, 4));
            due("stand " + stand + ", clay 5", OUT, () -> x.angle(stand, 5));
        }
        due("stand 0", 20, () -> x.angle(0, 4));
        due("stand 4", 20, () -> x.angle(4, 4));
    }

    private static void angleOfNoClay() {
        ClayTraps x = new ClayTraps();
        int[] outside = {-1, 5, Integer.MIN_VALUE, Integer.MAX_VALUE};
        for (int clay : outside) {
            due("stand 0, clay " + clay, OUT, () -> x.angle(0, clay));
            due("stand 4, clay " + clay, OUT, () -> x.angle(4, clay));
            due("stand -1, clay " + clay, OUT, () -> x.angle(-1, clay));
        }
        due("clay 0", -20, () -> x.angle(4, 0));
        due("clay 4", 20, () -> x.angle(0, 4));
    }

    private static void hardestClay() {
        hardestDue(4, 1, 1);
        hardestDue(0, -1, 1);
        hardestDue(4, 45, 45);
        hardestDue(0, -45, 45);
        hardestDue(4, 1, 45);
        hardestDue(0, -1, 45);
        hardestDue(4, 45, 1);
        hardestDue(0, -45, 1);
    }

    private static void hardestOfSeveral() {
        due("a new stand: 20 and -20", 0, () -> new ClayTraps().hardestClay(4));
        hardestDue(0, 0, 1);
        hardestDue(0, 0, 45);
        hardestDue(0, 0, 0);
        hardestDue(0, 45, 0);
        hardestDue(0, -45, 0);
    }

    private static void hardestDue(int clay, int base, int spread) {
        for (int stand = 0; stand < 5; stand++) {
            int s = stand;
            ClayTraps x = new ClayTraps();
            x.setTrap(s, base, spread);
            due("stand " + s + ", base " + base + ", spread " + spread, clay, () -> x.hardestClay(s));
        }
    }

    private static void hardestOfNoStand() {
        ClayTraps x = new ClayTraps();
        x.setTrap(0, 1, 20);
        x.setTrap(4, 1, 20);
        int[] outside = {-1, 5, Integer.MIN_VALUE, Integer.MAX_VALUE};
        for (int stand : outside) {
            due("stand " + stand, OUT, () -> x.hardestClay(stand));
        }
        due("stand 0", 4, () -> x.hardestClay(0));
        due("stand 4", 4, () -> x.hardestClay(4));
    }

    private static void standOf() {
        ClayTraps x = with(20, 1, 20, 1, 20, 1, 20, 1, 20, 1, 20, 1);
        standsDue(x, 0, 1, 2, 3, 4, 0);
        x.pass(4);
        standsDue(x, 0, 1, 2, 3, 4, 0);
        x.pass(1);
        standsDue(x, 1, 2, 3, 4, 0, 1);
        x.pass(19);
        standsDue(x, 4, 0, 1, 2, 3, 4);
        x.pass(1);
        standsDue(x, 0, 1, 2, 3, 4, 0);
    }

    private static void standsDue(ClayTraps x, int... stands) {
        for (int gun = 0; gun < stands.length; gun++) {
            int g = gun;
            due("turn " + x.turn() + ", gun " + g, stands[g], () -> x.standOf(g));
        }
    }

    private static void standOfNoGun() {
        due("0 of none", OUT, () -> new ClayTraps().standOf(0));
        ClayTraps x = with(20, 1);
        due("-1 of 1", OUT, () -> x.standOf(-1));
        due("0 of 1", 0, () -> x.standOf(0));
        due("1 of 1", OUT, () -> x.standOf(1));
        ClayTraps six = with(20, 1, 20, 1, 20, 1, 20, 1, 20, 1, 20, 1);
        due("5 of 6", 0, () -> six.standOf(5));
        due("6 of 6", OUT, () -> six.standOf(6));
    }

    private static void angleFor() {
        ClayTraps x = with(20, 1, 20, 1, 20, 1, 20, 1, 20, 1, 20, 1);
        for (int stand = 0; stand < 5; stand++) {
            x.setTrap(stand, 10 * stand, 2 * stand);
        }
        anglesDue(x, 0, 8, 16, 24, 32, 0);
        x.pass(4);
        anglesDue(x, 0, 12, 24, 36, 48, 0);
        x.pass(1);
        anglesDue(x, 8, 16, 24, 32, 0, 8);
        x.pass(20);
        anglesDue(x, 0, 8, 16, 24, 32, 0);
        x.setTrap(1, -45, 45);
        due("a trap set in this turn", -90, () -> x.angleFor(1));
    }

    private static void anglesDue(ClayTraps x, int... angles) {
        for (int gun = 0; gun < angles.length; gun++) {
            int g = gun;
            due("turn " + x.turn() + ", gun " + g, angles[g], () -> x.angleFor(g));
        }
    }

    private static void angleForNoGun() {
        due("0 of none", OUT, () -> new ClayTraps().angleFor(0));
        ClayTraps x = with(20, 1);
        due("-1 of 1", OUT, () -> x.angleFor(-1));
        due("0 of 1", -20, () -> x.angleFor(0));
        due("1 of 1", OUT, () -> x.angleFor(1));
        ClayTraps six = with(20, 1, 20, 1, 20, 1, 20, 1, 20, 1, 20, 1);
        due("5 of 6", -20, () -> six.angleFor(5));
        due("6 of 6", OUT, () -> six.angleFor(6));
    }
}
