/** A test of its own for each sentence of the document's "Terms", at the bounds that it names, worked out by hand. */
public final class TermsTests extends Checks {
    public static void main(String[] args) {
        sentence("used for at most 512 calls", TermsTests::call512);
        sentence("/ is cut towards 0: angles", TermsTests::anglesAreCut);
        sentence("/ is cut towards 0: fatigue / steadiness", TermsTests::fatigueIsCut);
        sentence("Time is told in turns, from 0", TermsTests::timeFrom0);
        sentence("Stands are numbered 0 to 4", TermsTests::stands);
        sentence("a base, -45 to 45", TermsTests::baseBounds);
        sentence("a base (0, at first)", TermsTests::baseAtFirst);
        sentence("a spread, 0 to 45", TermsTests::spreadBounds);
        sentence("a spread (20, at first)", TermsTests::spreadAtFirst);
        sentence("Clays are numbered 0 to 4", TermsTests::clays);
        sentence("base + spread * (clay - 2) / 2, where that product is divided", TermsTests::angleOfAClay);
        sentence("At most 6, numbered from 0", TermsTests::atMostSixGuns);
        sentence("a swing, 5 to 60", TermsTests::swingBounds);
        sentence("a steadiness, 1 to 9", TermsTests::steadinessBounds);
        sentence("a fatigue, and a score (0 and 0, at first)", TermsTests::newGun);
        sentence("the stand that g and t / 5, added, leave divided by 5", TermsTests::standOfATurn);
        sentence("its clay is what t leaves divided by 5", TermsTests::clayOfATurn);
        sentence("The amount of the angle is in the trouble", TermsTests::amountOfTheAngle);
        sentence("If the trouble is no more than the swing, a hit with the first barrel", TermsTests::firstBarrelBound);
        sentence("with the first barrel: the score is 2 more, the fatigue 1 more", TermsTests::firstBarrel);
        sentence("if the amount of the angle alone is no more than the swing", TermsTests::secondBarrelBound);
        sentence("the second barrel: the fatigue is 2 more, the score is 1 more", TermsTests::secondBarrel);
        sentence("otherwise it is a miss", TermsTests::miss);
        sentence("Each gun shoots at its clay", TermsTests::eachGunShoots);
        sentence("If the clay was the clay 4, each gun walks on", TermsTests::walksBehindClay4);
        sentence("its fatigue is 3 less, at least 0", TermsTests::walksToAtLeast0);
        sentence("The turn is 1 greater", TermsTests::turnIsGreater);
        sentence("If several exceptions apply: addGun", TermsTests::addGunThrowsFirst);
        sentence("If several exceptions apply: setTrap", TermsTests::setTrapThrowsFirst);
        sentence("If several exceptions apply: scoreIn", TermsTests::scoreInThrowsFirst);
        finish();
    }

    /** 511 calls are behind it: five setTrap, one addGun, 505 pass. */
    private static ClayTraps usedBy511Calls() {
        ClayTraps x = flat(45, 44, 1);
        for (int i = 0; i < 505; i++) {
            x.pass(50);
        }
        return x;
    }

    private static void call512() {
        due("turn", 25250, () -> usedBy511Calls().turn());
        due("misses", 25250, () -> usedBy511Calls().missesOf(0));
        due("score", 0, () -> usedBy511Calls().scoreOf(0));
        due("fatigue, 10 - 3 more in five turns", 35350, () -> usedBy511Calls().fatigueOf(0));
        due("misses in 50 more", 50, () -> usedBy511Calls().pass(50));
        due("shoot-off", 0, () -> usedBy511Calls().shootOff());
    }

    private static void anglesAreCut() {
        ClayTraps x = new ClayTraps();
        x.setTrap(0, 0, 15);
        due("15 * -1 / 2", -7, () -> x.angle(0, 1));
        due("15 * 1 / 2", 7, () -> x.angle(0, 3));
        x.setTrap(1, 0, 1);
        due("1 * -1 / 2", 0, () -> x.angle(1, 1));
        due("1 * 1 / 2", 0, () -> x.angle(1, 3));
        x.setTrap(2, 0, 45);
        due("45 * -1 / 2", -22, () -> x.angle(2, 1));
        due("45 * 1 / 2", 22, () -> x.angle(2, 3));
    }

    private static void fatigueIsCut() {
        // Each five turns make it 2 more tired: 6 behind 15 turns, 8 behind 17, 9 behind 18.
        ClayTraps x = flat(5, 5, 9);
        x.pass(17);
        due("fatigue behind 17", 8, () -> x.fatigueOf(0));
        due("5 + 8 / 9 is 5", 2, () -> x.wouldHit(0));
        x.pass(1);
        due("fatigue behind 18", 9, () -> x.fatigueOf(0));
        due("5 + 9 / 9 is 6", 1, () -> x.wouldHit(0));
    }

    private static void timeFrom0() {
        ClayTraps x = with(20, 1);
        due("turn", 0, x::turn);
        due("clay 0 comes first", -20, () -> x.angleFor(0));
    }

    private static void stands() {
        ClayTraps x = new ClayTraps();
        int[] outside = {-1, 5};
        for (int stand : outside) {
            due("setTrap " + stand, OUT, () -> x.setTrap(stand, 1, 1));
            due("angle " + stand, OUT, () -> x.angle(stand, 0));
            due("hardestClay " + stand, OUT, () -> x.hardestClay(stand));
        }
        for (int stand = 0; stand < 5; stand++) {
            int s = stand;
            due("setTrap " + s, 0, () -> x.setTrap(s, 10 + s, 0));
        }
        for (int stand = 0; stand < 5; stand++) {
            int s = stand;
            due("each stand has its own, " + s, 10 + s, () -> x.angle(s, 2));
        }
    }

    private static void baseBounds() {
        for (int stand = 0; stand < 5; stand++) {
            int s = stand;
            ClayTraps x = new ClayTraps();
            due("base -45 is taken at " + s, 0, () -> x.setTrap(s, -45, 20));
            due("base -45 stands at " + s, -45, () -> x.angle(s, 2));
            due("base -46 at " + s, ARGUMENT, () -> x.setTrap(s, -46, 20));
            due("base 45 is taken at " + s, -45, () -> x.setTrap(s, 45, 20));
            due("base 45 stands at " + s, 45, () -> x.angle(s, 2));
            due("base 46 at " + s, ARGUMENT, () -> x.setTrap(s, 46, 20));
            due("base 45 still stands at " + s, 45, () -> x.angle(s, 2));
        }
    }

    private static void baseAtFirst() {
        ClayTraps x = new ClayTraps();
        for (int stand = 0; stand < 5; stand++) {
            int s = stand;
            due("middle clay of " + s, 0, () -> x.angle(s, 2));
            due("base before of " + s, 0, () -> x.setTrap(s, 9, 20));
        }
    }

    private static void spreadBounds() {
        for (int stand = 0; stand < 5; stand++) {
            int s = stand;
            ClayTraps x = new ClayTraps();
            due("spread 0 is taken at " + s, 0, () -> x.setTrap(s, 0, 0));
            due("spread 0, clay 0 of " + s, 0, () -> x.angle(s, 0));
            due("spread 0, clay 4 of " + s, 0, () -> x.angle(s, 4));
            due("spread -1 at " + s, ARGUMENT, () -> x.setTrap(s, 0, -1));
            due("spread 45 is taken at " + s, 0, () -> x.setTrap(s, 0, 45));
            due("spread 45, clay 0 of " + s, -45, () -> x.angle(s, 0));
            due("spread 45, clay 4 of " + s, 45, () -> x.angle(s, 4));
            due("spread 46 at " + s, ARGUMENT, () -> x.setTrap(s, 0, 46));
            due("spread 45 still stands at " + s, 45, () -> x.angle(s, 4));
        }
    }

    private static void spreadAtFirst() {
        ClayTraps x = new ClayTraps();
        for (int stand = 0; stand < 5; stand++) {
            int s = stand;
            due("clay 0 of " + s, -20, () -> x.angle(s, 0));
            due("clay 1 of " + s, -10, () -> x.angle(s, 1));
            due("clay 3 of " + s, 10, () -> x.angle(s, 3));
            due("clay 4 of " + s, 20, () -> x.angle(s, 4));
        }
    }

    private static void clays() {
        ClayTraps x = new ClayTraps();
        for (int stand = 0; stand < 5; stand++) {
            int s = stand;
            due("clay -1 of " + s, OUT, () -> x.angle(s, -1));
            due("clay 0 of " + s, -20, () -> x.angle(s, 0));
            due("clay 4 of " + s, 20, () -> x.angle(s, 4));
            due("clay 5 of " + s, OUT, () -> x.angle(s, 5));
        }
    }

    private static void angleOfAClay() {
        anglesDue(-45, 45, -90, -67, -45, -23, 0);
        anglesDue(45, 45, 0, 23, 45, 67, 90);
        anglesDue(-45, 0, -45, -45, -45, -45, -45);
        anglesDue(45, 0, 45, 45, 45, 45, 45);
        anglesDue(0, 45, -45, -22, 0, 22, 45);
        anglesDue(0, 1, -1, 0, 0, 0, 1);
        // The product alone is cut: (2 * 10 - 15) / 2 would be 2, and 15 * (-1 / 2) would be 0.
        anglesDue(10, 15, -5, 3, 10, 17, 25);
        anglesDue(-10, 15, -25, -17, -10, -3, 5);
    }

    private static void anglesDue(int base, int spread, int... angles) {
        ClayTraps x = new ClayTraps();
        x.setTrap(3, base, spread);
        for (int clay = 0; clay < 5; clay++) {
            int c = clay;
            due("base " + base + ", spread " + spread + ", clay " + c, angles[c], () -> x.angle(3, c));
        }
    }

    private static void atMostSixGuns() {
        ClayTraps x = new ClayTraps();
        for (int gun = 0; gun < 6; gun++) {
            int g = gun;
            due("gun " + g, g, () -> x.addGun(20, 5));
        }
        due("one more", STATE, () -> x.addGun(20, 5));
        due("and one more", STATE, () -> x.addGun(5, 1));
        due("guns", 6, x::guns);
    }

    private static void swingBounds() {
        ClayTraps x = new ClayTraps();
        due("swing 4", ARGUMENT, () -> x.addGun(4, 5));
        due("swing 61", ARGUMENT, () -> x.addGun(61, 5));
        due("swing 5", 0, () -> x.addGun(5, 5));
        due("swing 60", 1, () -> x.addGun(60, 5));
        setAllTraps(x, 5, 0);
        due("swing 5, angle 5", 2, () -> x.wouldHit(0));
        setAllTraps(x, 6, 0);
        due("swing 5, angle 6", 0, () -> x.wouldHit(0));
        setAllTraps(x, -40, 20);
        due("swing 60, angle -60", 2, () -> x.wouldHit(1));
        setAllTraps(x, -41, 20);
        due("swing 60, angle -61", 0, () -> x.wouldHit(1));
    }

    private static void steadinessBounds() {
        ClayTraps x = new ClayTraps();
        due("steadiness 0", ARGUMENT, () -> x.addGun(20, 0));
        due("steadiness 10", ARGUMENT, () -> x.addGun(20, 10));
        due("steadiness 1", 0, () -> x.addGun(20, 1));
        due("steadiness 9", 1, () -> x.addGun(20, 9));
        setAllTraps(x, 0, 0);
        x.pass(4);
        setAllTraps(x, 16, 0);
        due("steadiness 1, 16 + 4 / 1", 2, () -> x.wouldHit(0));
        setAllTraps(x, 17, 0);
        due("steadiness 1, 17 + 4 / 1", 1, () -> x.wouldHit(0));
        setAllTraps(x, 20, 0);
        due("steadiness 9, 20 + 4 / 9", 2, () -> x.wouldHit(1));
    }

    private static void newGun() {
        ClayTraps x = with(20, 1);
        x.pass(7);
        x.shootOff();
        for (int gun = 1; gun < 6; gun++) {
            x.addGun(60, 1);
        }
        for (int gun = 1; gun < 6; gun++) {
            int g = gun;
            due("fatigue of " + g, 0, () -> x.fatigueOf(g));
            due("score of " + g, 0, () -> x.scoreOf(g));
        }
        ClayTraps first = with(20, 1);
        due("fatigue of the first", 0, () -> first.fatigueOf(0));
        due("score of the first", 0, () -> first.scoreOf(0));
    }

    private static void standOfATurn() {
        int[] turns = {0, 4, 5, 9, 10, 19, 20, 24, 25, 29, 49, 50};
        int[] ofGun0 = {0, 0, 1, 1, 2, 3, 4, 4, 0, 0, 4, 0};
        int[] ofGun1 = {1, 1, 2, 2, 3, 4, 0, 0, 1, 1, 0, 1};
        int[] ofGun4 = {4, 4, 0, 0, 1, 2, 3, 3, 4, 4, 3, 4};
        for (int i = 0; i < turns.length; i++) {
            int n = i;
            ClayTraps x = with(20, 1, 20, 1, 20, 1, 20, 1, 20, 1, 20, 1);
            passAll(x, turns[n]);
            due("gun 0 in " + turns[n], ofGun0[n], () -> x.standOf(0));
            due("gun 1 in " + turns[n], ofGun1[n], () -> x.standOf(1));
            due("gun 4 in " + turns[n], ofGun4[n], () -> x.standOf(4));
            due("gun 5 in " + turns[n], ofGun0[n], () -> x.standOf(5));
        }
    }

    private static void clayOfATurn() {
        int[] turns = {0, 1, 2, 3, 4, 5, 9, 24, 25, 49, 50};
        int[] angles = {-20, -10, 0, 10, 20, -20, 20, 20, -20, 20, -20};
        for (int i = 0; i < turns.length; i++) {
            int n = i;
            ClayTraps x = with(20, 1, 20, 1);
            passAll(x, turns[n]);
            due("gun 0 in " + turns[n], angles[n], () -> x.angleFor(0));
            due("gun 1 in " + turns[n], angles[n], () -> x.angleFor(1));
        }
    }

    private static void amountOfTheAngle() {
        due("angle 10", 2, () -> flat(10, 10, 1).wouldHit(0));
        due("angle -10", 2, () -> flat(-10, 10, 1).wouldHit(0));
        due("angle 11", 0, () -> flat(11, 10, 1).wouldHit(0));
        due("angle -11", 0, () -> flat(-11, 10, 1).wouldHit(0));
        due("miss at -11", 1, () -> flat(-11, 10, 1).pass(1));
    }

    /** A gun with the swing 10 and the steadiness 1 that has a fatigue of 3, and comes to clays at this angle. */
    private static ClayTraps threeTired(int angle) {
        ClayTraps x = flat(0, 10, 1);
        x.pass(3);
        setAllTraps(x, angle, 0);
        return x;
    }

    private static void firstBarrelBound() {
        due("7 + 3", 2, () -> threeTired(7).wouldHit(0));
        due("8 + 3", 1, () -> threeTired(8).wouldHit(0));
        due("-7 and 3", 2, () -> threeTired(-7).wouldHit(0));
        due("-8 and 3", 1, () -> threeTired(-8).wouldHit(0));
        ClayTraps just = threeTired(7);
        just.pass(1);
        due("the shot at 7 + 3", 4, () -> just.firstsOf(0));
        ClayTraps more = threeTired(8);
        more.pass(1);
        due("the shot at 8 + 3", 3, () -> more.firstsOf(0));
    }

    private static void firstBarrel() {
        ClayTraps x = threeTired(7);
        due("misses", 0, () -> x.pass(1));
        due("score", 8, () -> x.scoreOf(0));
        due("fatigue", 4, () -> x.fatigueOf(0));
    }

    private static void secondBarrelBound() {
        due("10 of 10, tired", 1, () -> threeTired(10).wouldHit(0));
        due("11 of 10, tired", 0, () -> threeTired(11).wouldHit(0));
        due("-10 of 10, tired", 1, () -> threeTired(-10).wouldHit(0));
        due("-11 of 10, tired", 0, () -> threeTired(-11).wouldHit(0));
        due("misses of the shot at 10", 0, () -> threeTired(10).pass(1));
        due("misses of the shot at 11", 1, () -> threeTired(11).pass(1));
    }

    private static void secondBarrel() {
        ClayTraps x = threeTired(10);
        x.pass(1);
        due("score", 7, () -> x.scoreOf(0));
        due("fatigue, 2 more and not 3", 5, () -> x.fatigueOf(0));
        due("firsts", 3, () -> x.firstsOf(0));
        due("misses", 0, () -> x.missesOf(0));
    }

    private static void miss() {
        ClayTraps x = threeTired(11);
        x.pass(1);
        due("score", 6, () -> x.scoreOf(0));
        due("fatigue", 5, () -> x.fatigueOf(0));
        due("firsts", 3, () -> x.firstsOf(0));
        due("misses", 1, () -> x.missesOf(0));
    }

    private static void eachGunShoots() {
        ClayTraps x = with(20, 9, 20, 9, 20, 9, 20, 9, 20, 9, 20, 9);
        setAllTraps(x, 0, 0);
        x.setTrap(1, 45, 0);
        x.setTrap(3, -45, 0);
        due("the guns 1 and 3 miss", 2, () -> x.pass(1));
        int[] scores = {2, 0, 2, 0, 2, 2};
        int[] fatigues = {1, 2, 1, 2, 1, 1};
        for (int gun = 0; gun < 6; gun++) {
            int g = gun;
            due("score of " + g, scores[g], () -> x.scoreOf(g));
            due("fatigue of " + g, fatigues[g], () -> x.fatigueOf(g));
        }
    }

    private static void walksBehindClay4() {
        int[] fatigues = {1, 2, 3, 4, 2, 3, 4, 5, 6, 4};
        ClayTraps x = flat(0, 60, 9, 60, 9, 60, 9, 60, 9, 60, 9, 60, 9);
        for (int turn = 0; turn < 10; turn++) {
            int t = turn;
            x.pass(1);
            for (int gun = 0; gun < 6; gun++) {
                int g = gun;
                due("turn " + t + ", gun " + g, fatigues[t], () -> x.fatigueOf(g));
            }
        }
    }

    private static void walksToAtLeast0() {
        int[] behind = {2, 1, 0, 0, 0};
        for (int restBehind = 0; restBehind <= 4; restBehind++) {
            int tired = 5 - restBehind;
            ClayTraps x = flat(0, 60, 9);
            passAll(x, restBehind);
            x.rest(0);
            passAll(x, tired);
            due(tired + ", 3 less", behind[restBehind], () -> x.fatigueOf(0));
        }
        ClayTraps missing = flat(45, 5, 9);
        missing.pass(4);
        missing.rest(0);
        missing.pass(1);
        due("2 of a miss, 3 less", 0, () -> missing.fatigueOf(0));
    }

    private static void turnIsGreater() {
        ClayTraps x = with(20, 1);
        for (int turn = 1; turn <= 6; turn++) {
            x.pass(1);
            due("turn", turn, x::turn);
        }
    }

    private static void addGunThrowsFirst() {
        ClayTraps six = with(20, 1, 20, 1, 20, 1, 20, 1, 20, 1, 20, 1);
        due("swing 4, and there are 6", ARGUMENT, () -> six.addGun(4, 5));
        due("swing 61, and there are 6", ARGUMENT, () -> six.addGun(61, 5));
        due("steadiness 0, and there are 6", ARGUMENT, () -> six.addGun(20, 0));
        due("steadiness 10, and there are 6", ARGUMENT, () -> six.addGun(20, 10));
        due("both wrong, and there are 6", ARGUMENT, () -> six.addGun(4, 10));
        due("there are 6 alone", STATE, () -> six.addGun(20, 5));
    }

    private static void setTrapThrowsFirst() {
        ClayTraps x = new ClayTraps();
        int[] outside = {-1, 5};
        for (int stand : outside) {
            due("stand " + stand + ", base -46", OUT, () -> x.setTrap(stand, -46, 20));
            due("stand " + stand + ", base 46", OUT, () -> x.setTrap(stand, 46, 20));
            due("stand " + stand + ", spread -1", OUT, () -> x.setTrap(stand, 0, -1));
            due("stand " + stand + ", spread 46", OUT, () -> x.setTrap(stand, 0, 46));
            due("stand " + stand + ", all wrong", OUT, () -> x.setTrap(stand, 46, 46));
        }
        due("base and spread wrong", ARGUMENT, () -> x.setTrap(0, 46, 46));
    }

    private static void scoreInThrowsFirst() {
        ClayTraps x = with(20, 1);
        int[] outside = {-1, 1};
        for (int gun : outside) {
            due("gun " + gun + ", turns 0", OUT, () -> x.scoreIn(gun, 0));
            due("gun " + gun + ", turns 51", OUT, () -> x.scoreIn(gun, 51));
        }
        due("turns 0 alone", ARGUMENT, () -> x.scoreIn(0, 0));
        due("turns 51 alone", ARGUMENT, () -> x.scoreIn(0, 51));
    }
}
