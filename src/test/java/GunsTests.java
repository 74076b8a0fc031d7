/** A test of its own for each sentence of the promises 12 to 20, at the bounds that it names, worked out by hand. */
public final class GunsTests extends Checks {
    public static void main(String[] args) {
        sentence("Promise 12: Returns how many guns there are", GunsTests::guns);
        sentence("Promise 13: Returns its score", GunsTests::scoreOf);
        sentence("Promise 13: if there is no such gun", GunsTests::scoreOfNoGun);
        sentence("Promise 14: how many hits with the first barrel", GunsTests::firstsOf);
        sentence("Promise 14: in turns", GunsTests::firstsInTurns);
        sentence("Promise 14: if there is no such gun", GunsTests::firstsOfNoGun);
        sentence("Promise 15: how many misses it has", GunsTests::missesOf);
        sentence("Promise 15: in turns", GunsTests::missesInTurns);
        sentence("Promise 15: if there is no such gun", GunsTests::missesOfNoGun);
        sentence("Promise 16: Returns its fatigue", GunsTests::fatigueOf);
        sentence("Promise 16: if there is no such gun", GunsTests::fatigueOfNoGun);
        sentence("Promise 17: 2 a hit with the first barrel", GunsTests::wouldHitFirst);
        sentence("Promise 17: 1 one with the second barrel", GunsTests::wouldHitSecond);
        sentence("Promise 17: 0 a miss", GunsTests::wouldMiss);
        sentence("Promise 17: at its clay of this turn now", GunsTests::wouldHitNow);
        sentence("Promise 17: nothing is changed", GunsTests::wouldHitChangesNothing);
        sentence("Promise 17: if there is no such gun", GunsTests::wouldHitOfNoGun);
        sentence("Promise 18: the gun with the greatest score", GunsTests::leader);
        sentence("Promise 18: of several the smallest number", GunsTests::leaderOfSeveral);
        sentence("Promise 18: -1 without guns", GunsTests::leaderWithoutGuns);
        sentence("Promise 19: how many guns have the greatest score", GunsTests::tied);
        sentence("Promise 19: without guns", GunsTests::tiedWithoutGuns);
        sentence("Promise 20: 1, and 1 more for each gun with a greater score", GunsTests::rankOf);
        sentence("Promise 20: a greater score, not the same", GunsTests::rankOfSeveral);
        sentence("Promise 20: if there is no such gun", GunsTests::rankOfNoGun);
        finish();
    }

    private static ClayTraps six() {
        return with(20, 9, 20, 9, 20, 9, 20, 9, 20, 9, 20, 9);
    }

    /** Each gun comes a turn later than the one ahead of it, and hits with the first barrel: 10, 8, 6, 4, 2, 0. */
    private static ClayTraps falling() {
        ClayTraps x = flat(0, 60, 9);
        for (int gun = 1; gun < 6; gun++) {
            x.pass(1);
            x.addGun(60, 9);
        }
        return x;
    }

    /** In three turns, at -20, -10 and 0: scores 2, 4, 6, with two guns for each. */
    private static ClayTraps pairs() {
        ClayTraps x = with(5, 9, 10, 9, 20, 9, 20, 9, 10, 9, 5, 9);
        x.pass(3);
        return x;
    }

    private static void guns() {
        ClayTraps x = new ClayTraps();
        due("none", 0, x::guns);
        for (int gun = 0; gun < 6; gun++) {
            x.addGun(5, 1);
            due("with gun " + gun, gun + 1, x::guns);
        }
        due("one more", STATE, () -> x.addGun(5, 1));
        due("six still", 6, x::guns);
        x.pass(50);
        x.shootOff();
        due("later", 6, x::guns);
    }

    private static void scoreOf() {
        ClayTraps x = falling();
        int[] scores = {10, 8, 6, 4, 2, 0};
        for (int gun = 0; gun < 6; gun++) {
            int g = gun;
            due("gun " + g, scores[g], () -> x.scoreOf(g));
        }
        x.shootOff();
        due("with a shoot-off", 11, () -> x.scoreOf(0));
    }

    private static void scoreOfNoGun() {
        due("0 of none", OUT, () -> new ClayTraps().scoreOf(0));
        due("-1 of 1", OUT, () -> with(20, 1).scoreOf(-1));
        due("0 of 1", 0, () -> with(20, 1).scoreOf(0));
        due("1 of 1", OUT, () -> with(20, 1).scoreOf(1));
        due("5 of 6", 0, () -> six().scoreOf(5));
        due("6 of 6", OUT, () -> six().scoreOf(6));
    }

    private static void firstsOf() {
        // At 9 with the swing 10: trouble 9 and 10 are first barrels, 11 is a second one.
        ClayTraps x = flat(9, 10, 1);
        int[] firsts = {1, 2, 2, 2};
        for (int turns = 1; turns <= 4; turns++) {
            int t = turns;
            x.pass(1);
            due("behind " + t, firsts[t - 1], () -> x.firstsOf(0));
        }
        setAllTraps(x, 11, 0);
        x.pass(1);
        due("behind a miss", 2, () -> x.firstsOf(0));
    }

    private static void firstsInTurns() {
        ClayTraps x = with(60, 9, 60, 9);
        x.shootOff();
        due("the nine hits of a shoot-off, gun 0", 0, () -> x.firstsOf(0));
        due("the nine hits of a shoot-off, gun 1", 0, () -> x.firstsOf(1));
        x.pass(1);
        due("behind a turn", 1, () -> x.firstsOf(0));
    }

    private static void firstsOfNoGun() {
        due("0 of none", OUT, () -> new ClayTraps().firstsOf(0));
        due("-1 of 1", OUT, () -> with(20, 1).firstsOf(-1));
        due("0 of 1", 0, () -> with(20, 1).firstsOf(0));
        due("1 of 1", OUT, () -> with(20, 1).firstsOf(1));
        due("5 of 6", 0, () -> six().firstsOf(5));
        due("6 of 6", OUT, () -> six().firstsOf(6));
    }

    private static void missesOf() {
        ClayTraps x = flat(9, 10, 1);
        x.pass(4);
        due("behind first and second barrels", 0, () -> x.missesOf(0));
        setAllTraps(x, 10, 0);
        x.pass(1);
        due("behind a second barrel at 10", 0, () -> x.missesOf(0));
        setAllTraps(x, 11, 0);
        x.pass(1);
        due("behind a miss at 11", 1, () -> x.missesOf(0));
        x.pass(1);
        due("behind one more", 2, () -> x.missesOf(0));
    }

    private static void missesInTurns() {
        ClayTraps x = with(5, 9, 5, 9);
        x.shootOff();
        due("nine rounds without a hit, gun 0", 0, () -> x.missesOf(0));
        due("nine rounds without a hit, gun 1", 0, () -> x.missesOf(1));
        x.pass(1);
        due("behind a turn", 1, () -> x.missesOf(1));
    }

    private static void missesOfNoGun() {
        due("0 of none", OUT, () -> new ClayTraps().missesOf(0));
        due("-1 of 1", OUT, () -> with(20, 1).missesOf(-1));
        due("0 of 1", 0, () -> with(20, 1).missesOf(0));
        due("1 of 1", OUT, () -> with(20, 1).missesOf(1));
        due("5 of 6", 0, () -> six().missesOf(5));
        due("6 of 6", OUT, () -> six().missesOf(6));
    }

    private static void fatigueOf() {
        ClayTraps x = falling();
        int[] fatigues = {2, 1, 0, 0, 0, 0};
        for (int gun = 0; gun < 6; gun++) {
            int g = gun;
            due("gun " + g, fatigues[g], () -> x.fatigueOf(g));
        }
        x.pass(1);
        due("behind a turn more", 3, () -> x.fatigueOf(0));
        x.rest(0);
        due("rested", 0, () -> x.fatigueOf(0));
        due("the other one", 2, () -> x.fatigueOf(1));
        ClayTraps tie = with(5, 9, 5, 9);
        tie.shootOff();
        due("of a shoot-off", 9, () -> tie.fatigueOf(1));
    }

    private static void fatigueOfNoGun() {
        due("0 of none", OUT, () -> new ClayTraps().fatigueOf(0));
        due("-1 of 1", OUT, () -> with(20, 1).fatigueOf(-1));
        due("0 of 1", 0, () -> with(20, 1).fatigueOf(0));
        due("1 of 1", OUT, () -> with(20, 1).fatigueOf(1));
        due("5 of 6", 0, () -> six().fatigueOf(5));
        due("6 of 6", OUT, () -> six().fatigueOf(6));
    }

    /** A gun with the swing 20 and the steadiness 2 that has a fatigue of 5, and comes to clays at this angle. */
    private static ClayTraps fiveTired(int angle) {
        ClayTraps x = flat(0, 20, 2);
        x.pass(8);
        due("fatigue", 5, () -> x.fatigueOf(0));
        setAllTraps(x, angle, 0);
        return x;
    }

    private static void wouldHitFirst() {
        due("18 + 5 / 2 is 20", 2, () -> fiveTired(18).wouldHit(0));
        due("-18 as well", 2, () -> fiveTired(-18).wouldHit(0));
        due("0 + 5 / 2", 2, () -> fiveTired(0).wouldHit(0));
    }

    private static void wouldHitSecond() {
        due("19 + 5 / 2 is 21", 1, () -> fiveTired(19).wouldHit(0));
        due("20 alone is 20", 1, () -> fiveTired(20).wouldHit(0));
        due("-19 as well", 1, () -> fiveTired(-19).wouldHit(0));
        due("-20 as well", 1, () -> fiveTired(-20).wouldHit(0));
    }

    private static void wouldMiss() {
        due("21", 0, () -> fiveTired(21).wouldHit(0));
        due("-21", 0, () -> fiveTired(-21).wouldHit(0));
        due("21 without a fatigue", 0, () -> flat(21, 20, 2).wouldHit(0));
    }

    private static void wouldHitNow() {
        // The gun 1 is at the stand 1, with the clays -21, -10, 0, 10, 21, and then at the stand 2; the gun 0 is not.
        ClayTraps x = flat(45, 60, 9, 10, 9);
        x.setTrap(1, 0, 21);
        int[] hits = {0, 2, 2, 2, 0, 0};
        for (int turn = 0; turn < 6; turn++) {
            int t = turn;
            due("gun 1 in turn " + t, hits[t], () -> x.wouldHit(1));
            due("gun 0 in turn " + t, 2, () -> x.wouldHit(0));
            x.pass(1);
        }
        setAllTraps(x, 10, 0);
        due("a trap set in this turn", 2, () -> x.wouldHit(1));
        x.pass(3);
        due("tired in this turn", 1, () -> x.wouldHit(1));
        x.rest(1);
        due("rested in this turn", 2, () -> x.wouldHit(1));
    }

    private static void wouldHitChangesNothing() {
        int[] angles = {18, 20, 21};
        for (int angle : angles) {
            ClayTraps x = fiveTired(angle);
            x.wouldHit(0);
            due("fatigue at " + angle, 5, () -> x.fatigueOf(0));
            due("score at " + angle, 16, () -> x.scoreOf(0));
            due("firsts at " + angle, 8, () -> x.firstsOf(0));
            due("misses at " + angle, 0, () -> x.missesOf(0));
            due("turn at " + angle, 8, x::turn);
        }
    }

    private static void wouldHitOfNoGun() {
        due("0 of none", OUT, () -> new ClayTraps().wouldHit(0));
        due("-1 of 1", OUT, () -> with(20, 1).wouldHit(-1));
        due("0 of 1", 2, () -> with(20, 1).wouldHit(0));
        due("1 of 1", OUT, () -> with(20, 1).wouldHit(1));
        due("5 of 6", 2, () -> six().wouldHit(5));
        due("6 of 6", OUT, () -> six().wouldHit(6));
    }

    private static void leader() {
        due("the only gun", 0, with(5, 1)::leader);
        due("the first of six", 0, falling()::leader);
        ClayTraps last = flat(45, 5, 9, 5, 9, 5, 9, 5, 9, 5, 9, 60, 9);
        last.pass(1);
        due("the last of six", 5, last::leader);
    }

    private static void leaderOfSeveral() {
        due("all with 0", 0, six()::leader);
        due("the guns 2 and 3", 2, pairs()::leader);
        ClayTraps apart = flat(45, 5, 9, 60, 9, 5, 9, 5, 9, 5, 9, 60, 9);
        apart.pass(1);
        due("the guns 1 and 5", 1, apart::leader);
    }

    private static void leaderWithoutGuns() {
        ClayTraps x = new ClayTraps();
        due("new", -1, x::leader);
        x.pass(50);
        due("later", -1, x::leader);
        x.addGun(5, 1);
        due("with a gun", 0, x::leader);
    }

    private static void tied() {
        due("one gun", 1, with(5, 1)::tied);
        due("six with 0", 6, six()::tied);
        due("one of six", 1, falling()::tied);
        due("two of six", 2, pairs()::tied);
        ClayTraps five = flat(0, 60, 9, 60, 9, 60, 9, 60, 9, 60, 9, 60, 9);
        five.setTrap(4, -45, 45);
        five.pass(1);
        due("five of six", 5, five::tied);
        five.shootOff();
        due("shot off", 1, five::tied);
    }

    private static void tiedWithoutGuns() {
        ClayTraps x = new ClayTraps();
        due("new", 0, x::tied);
        x.pass(50);
        due("later", 0, x::tied);
    }

    private static void rankOf() {
        due("the only gun", 1, () -> with(5, 1).rankOf(0));
        ClayTraps x = falling();
        for (int gun = 0; gun < 6; gun++) {
            int g = gun;
            due("gun " + g, g + 1, () -> x.rankOf(g));
        }
        ClayTraps last = flat(45, 5, 9, 60, 9);
        last.pass(1);
        due("behind a gun of a greater number", 2, () -> last.rankOf(0));
        due("ahead of a gun of a smaller number", 1, () -> last.rankOf(1));
    }

    private static void rankOfSeveral() {
        for (int gun = 0; gun < 6; gun++) {
            int g = gun;
            due("all with 0, gun " + g, 1, () -> six().rankOf(g));
        }
        int[] ranks = {5, 3, 1, 1, 3, 5};
        ClayTraps x = pairs();
        for (int gun = 0; gun < 6; gun++) {
            int g = gun;
            due("two of each, gun " + g, ranks[g], () -> x.rankOf(g));
        }
    }

    private static void rankOfNoGun() {
        due("0 of none", OUT, () -> new ClayTraps().rankOf(0));
        due("-1 of 1", OUT, () -> with(20, 1).rankOf(-1));
        due("0 of 1", 1, () -> with(20, 1).rankOf(0));
        due("1 of 1", OUT, () -> with(20, 1).rankOf(1));
        due("5 of 6", 1, () -> six().rankOf(5));
        due("6 of 6", OUT, () -> six().rankOf(6));
    }
}
