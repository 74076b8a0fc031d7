import java.math.BigInteger;

/** A test of its own for each sentence of the promises 21 to 23 and 25 to 28, at the bounds that it names. */
public final class WouldBeTests extends Checks {
    public static void main(String[] args) {
        sentence("Promise 21: Returns its score behind them", WouldBeTests::scoreIn);
        sentence("Promise 21: turns of 1 and of 50", WouldBeTests::scoreIn1And50);
        sentence("Promise 21: if nothing else is done", WouldBeTests::scoreInAsItComes);
        sentence("Promise 21: nothing is changed", WouldBeTests::scoreInChangesNothing);
        sentence("Promise 21: if there is no such gun", WouldBeTests::scoreInOfNoGun);
        sentence("Promise 21: if turns is not 1 to 50", WouldBeTests::scoreInTurns);
        sentence("Promise 22: 1 in this one", WouldBeTests::missInThisTurn);
        sentence("Promise 22: in how many turns it misses", WouldBeTests::missInHowManyTurns);
        sentence("Promise 22: in how many turns, at each stand's first and last clay", WouldBeTests::missAtEachStand);
        sentence("Promise 22: at most 100; -1 if not by then", WouldBeTests::noMiss);
        sentence("Promise 22: it misses, and does not hit with the second barrel", WouldBeTests::secondBarrelIsNoMiss);
        sentence("Promise 22: nothing is changed", WouldBeTests::turnsUntilMissChangesNothing);
        sentence("Promise 22: if there is no such gun", WouldBeTests::missOfNoGun);
        sentence("Promise 23: Returns the leader behind them", WouldBeTests::leaderIn);
        sentence("Promise 23: turns of 1", WouldBeTests::leaderIn1);
        sentence("Promise 23: turns of 50", WouldBeTests::leaderIn50);
        sentence("Promise 23: the leader, of several the smallest number", WouldBeTests::leaderInOfSeveral);
        sentence("Promise 23: the leader, -1 without guns", WouldBeTests::leaderInWithoutGuns);
        sentence("Promise 23: nothing is changed", WouldBeTests::leaderInChangesNothing);
        sentence("Promise 23: if turns is not 1 to 50", WouldBeTests::leaderInTurns);
        sentence("Promise 25: behind 0 turns", WouldBeTests::restBehind0);
        sentence("Promise 25: behind 20 turns", WouldBeTests::restBehind20);
        sentence("Promise 25: behind each number of turns, 0 to 20", WouldBeTests::restBehindEach);
        sentence("Promise 25: at most 20 turns", WouldBeTests::restBehind21IsTooLate);
        sentence("Promise 25: behind 25 turns from now on, not fewer", WouldBeTests::turn25Counts);
        sentence("Promise 25: behind 25 turns from now on, not more", WouldBeTests::turn26CountsNot);
        sentence("Promise 25: of several the smallest", WouldBeTests::restOfSeveral);
        sentence("Promise 25: nothing is changed", WouldBeTests::bestRestChangesNothing);
        sentence("Promise 25: if there is no such gun", WouldBeTests::bestRestOfNoGun);
        sentence("Promise 26: the least swing", WouldBeTests::leastSwing);
        sentence("Promise 26: 5 to 60: at least 5", WouldBeTests::swingOf5);
        sentence("Promise 26: 5 to 60: 60 is enough", WouldBeTests::swingOf60);
        sentence("Promise 26: -1 if 60 is not enough", WouldBeTests::swingOf60IsNotEnough);
        sentence("Promise 26: no clay of any stand", WouldBeTests::noClayOfAnyStand);
        sentence("Promise 26: whatever its fatigue", WouldBeTests::whateverItsFatigue);
        sentence("Promise 26: if there is no such gun", WouldBeTests::swingWantedOfNoGun);
        sentence("Promise 27: Returns the mean score of guns", WouldBeTests::meanScore);
        sentence("Promise 27: 0 without any", WouldBeTests::meanScoreWithoutGuns);
        sentence("Promise 28: Computes a checksum, without guns", WouldBeTests::digestWithoutGuns);
        sentence("Promise 28: Computes a checksum, with guns", WouldBeTests::digestWithGuns);
        sentence("Promise 28: leaderIn(25), not fewer", WouldBeTests::digestAsksFor25Turns);
        sentence("Promise 28: leaderIn(25), not more", WouldBeTests::digestAsksForNoMore);
        sentence("Promise 28: which wraps around as a 64-bit integer", WouldBeTests::digestWrapsAround);
        finish();
    }

    // ---- promise 21

    private static void scoreIn() {
        // Swing 10, steadiness 1, at -20, -10, 0, 10, 20: miss, second barrel, first barrel, second barrel, miss.
        ClayTraps x = with(10, 1);
        int[] scores = {0, 1, 3, 4, 4};
        for (int turns = 1; turns <= 5; turns++) {
            int n = turns;
            due("in " + n, scores[n - 1], () -> x.scoreIn(0, n));
        }
        x.pass(3);
        due("with the score that it has", 4, () -> x.scoreIn(0, 1));
    }

    private static void scoreIn1And50() {
        ClayTraps x = flat(0, 5, 9, 60, 9);
        due("1 turn", 2, () -> x.scoreIn(0, 1));
        due("2 turns", 4, () -> x.scoreIn(0, 2));
        due("49 turns", 98, () -> x.scoreIn(1, 49));
        due("50 turns", 100, () -> x.scoreIn(1, 50));
        x.pass(50);
        due("50 turns more", 200, () -> x.scoreIn(1, 50));
    }

    private static void scoreInAsItComes() {
        int[] turns = {1, 2, 4, 5, 6, 24, 25, 26, 49, 50};
        for (int n : turns) {
            ClayTraps x = tired(6, 7);
            ClayTraps played = tired(6, 7);
            played.pass(n);
            for (int gun = 0; gun < 6; gun++) {
                int g = gun;
                due("gun " + g + " in " + n, played.scoreOf(g), () -> x.scoreIn(g, n));
            }
        }
    }

    /** Guns that are not alike, behind some turns, at traps that are not alike. */
    private static ClayTraps tired(int guns, int turns) {
        int[] all = {18, 1, 22, 2, 40, 9, 5, 1, 20, 3, 20, 5};
        ClayTraps x = new ClayTraps();
        for (int gun = 0; gun < guns; gun++) {
            x.addGun(all[2 * gun], all[2 * gun + 1]);
        }
        x.setTrap(1, 17, 25);
        x.setTrap(2, 6, 9);
        x.setTrap(4, -33, 3);
        passAll(x, turns);
        return x;
    }

    private static void scoreInChangesNothing() {
        ClayTraps x = tired(6, 7);
        for (int gun = 0; gun < 6; gun++) {
            x.scoreIn(gun, 50);
        }
        due("all answers", everything(tired(6, 7)), () -> everything(x));
    }

    private static void scoreInOfNoGun() {
        due("0 of none", OUT, () -> new ClayTraps().scoreIn(0, 1));
        due("-1 of 1", OUT, () -> with(20, 9).scoreIn(-1, 1));
        due("0 of 1", 2, () -> with(20, 9).scoreIn(0, 1));
        due("1 of 1", OUT, () -> with(20, 9).scoreIn(1, 1));
        ClayTraps six = tired(6, 0);
        due("5 of 6", 2, () -> six.scoreIn(5, 1));
        due("6 of 6", OUT, () -> six.scoreIn(6, 1));
    }

    private static void scoreInTurns() {
        ClayTraps x = flat(0, 60, 9);
        int[] outside = {0, 51, -1, Integer.MIN_VALUE, Integer.MAX_VALUE};
        for (int turns : outside) {
            due("turns " + turns, ARGUMENT, () -> x.scoreIn(0, turns));
        }
        due("turns 1", 2, () -> x.scoreIn(0, 1));
        due("turns 50", 100, () -> x.scoreIn(0, 50));
    }

    // ---- promise 22

    private static void missInThisTurn() {
        due("-20 with the swing 19", 1, () -> with(19, 1).turnsUntilMiss(0));
        due("-20 with the swing 20", -1, () -> with(20, 1).turnsUntilMiss(0));
        ClayTraps x = with(19, 1);
        x.pass(4);
        due("20 with the swing 19", 1, () -> x.turnsUntilMiss(0));
        x.pass(1);
        due("at the next stand", 1, () -> x.turnsUntilMiss(0));
    }

    private static void missInHowManyTurns() {
        ClayTraps x = with(10, 1);
        int[] turns = {1, 4, 3, 2, 1, 1, 4};
        for (int turn = 0; turn < turns.length; turn++) {
            int t = turn;
            due("in the turn " + t, turns[t], () -> x.turnsUntilMiss(0));
            x.pass(1);
        }
    }

    private static void missAtEachStand() {
        for (int stand = 0; stand < 5; stand++) {
            int s = stand;
            ClayTraps first = flat(0, 10, 1, 10, 1, 10, 1, 10, 1, 10, 1, 10, 1);
            first.setTrap(s, -5, 6);
            due("first clay of " + s, 5 * s + 1, () -> first.turnsUntilMiss(0));
            due("first clay of " + s + ", gun 5", 5 * s + 1, () -> first.turnsUntilMiss(5));
            due("first clay of " + s + ", gun 1", (5 * s + 20) % 25 + 1, () -> first.turnsUntilMiss(1));
            ClayTraps last = flat(0, 10, 1);
            last.setTrap(s, 5, 6);
            due("last clay of " + s, 5 * s + 5, () -> last.turnsUntilMiss(0));
            due("no miss ahead of it", 0, () -> last.pass(5 * s + 4));
            due("then 1", 1, () -> last.turnsUntilMiss(0));
            due("then it misses", 1, () -> last.pass(1));
            due("then 25", 25, () -> last.turnsUntilMiss(0));
        }
    }

    /** In 25 turns a gun has met each clay of each stand; so a miss, if there is one, is not later than that. */
    private static void noMiss() {
        ClayTraps x = flat(10, 10, 1);
        due("-1", -1, () -> x.turnsUntilMiss(0));
        due("in 50", 0, () -> x.pass(50));
        due("in 100", 0, () -> x.pass(50));
        due("-1 behind 100", -1, () -> x.turnsUntilMiss(0));
    }

    private static void secondBarrelIsNoMiss() {
        ClayTraps x = flat(-10, 10, 1);
        x.pass(3);
        due("the second barrel now", 1, () -> x.wouldHit(0));
        due("no miss", -1, () -> x.turnsUntilMiss(0));
        x.setTrap(0, -11, 0);
        due("now a miss", 1, () -> x.turnsUntilMiss(0));
    }

    private static void turnsUntilMissChangesNothing() {
        ClayTraps x = tired(6, 7);
        for (int gun = 0; gun < 6; gun++) {
            x.turnsUntilMiss(gun);
        }
        due("all answers", everything(tired(6, 7)), () -> everything(x));
    }

    private static void missOfNoGun() {
        due("0 of none", OUT, () -> new ClayTraps().turnsUntilMiss(0));
        due("-1 of 1", OUT, () -> with(20, 9).turnsUntilMiss(-1));
        due("0 of 1", -1, () -> with(20, 9).turnsUntilMiss(0));
        due("1 of 1", OUT, () -> with(20, 9).turnsUntilMiss(1));
        ClayTraps six = with(20, 1, 20, 1, 20, 1, 20, 1, 20, 1, 19, 1);
        due("5 of 6", 1, () -> six.turnsUntilMiss(5));
        due("6 of 6", OUT, () -> six.turnsUntilMiss(6));
    }

    // ---- promise 23

    private static void leaderIn() {
        // At -20, -10, 0, 10, 20: the gun 0 scores 0, 0, 2, 2, 2; the gun 1 scores 0, 2, 4, 6, 6; none is ahead first.
        ClayTraps x = with(5, 9, 10, 9);
        int[] leaders = {0, 1, 1, 1, 1};
        for (int turns = 1; turns <= 5; turns++) {
            int n = turns;
            due("in " + n, leaders[n - 1], () -> x.leaderIn(n));
        }
        ClayTraps ahead = flat(0, 5, 9, 60, 9);
        ahead.pass(2);
        ahead.shootOff();
        setAllTraps(ahead, 45, 0);
        due("the scores that there are count", 1, ahead::leader);
        due("now and then", 1, () -> ahead.leaderIn(1));
    }

    private static void leaderIn1() {
        ClayTraps x = with(5, 9, 5, 9, 5, 9, 5, 9, 5, 9, 20, 9);
        due("leader now", 0, x::leader);
        due("leader in 1", 5, () -> x.leaderIn(1));
        // Here the second turn brings the gun 1 ahead, and the first one does not.
        ClayTraps two = with(5, 9, 10, 9);
        due("leader in 1, of those with 0", 0, () -> two.leaderIn(1));
        due("leader in 2", 1, () -> two.leaderIn(2));
    }

    private static void leaderIn50() {
        // From the turn 25 on the gun 0 is 2 ahead; it misses in the turns 49 and 74, which are the 25th and the 50th.
        ClayTraps x = flat(45, 10, 9);
        x.pass(24);
        x.rest(0);
        setAllTraps(x, 0, 0);
        x.pass(1);
        x.addGun(60, 9);
        x.setTrap(4, 5, 6);
        due("leader in 24", 0, () -> x.leaderIn(24));
        due("leader in 25", 0, () -> x.leaderIn(25));
        due("score in 49", 98, () -> x.scoreIn(0, 49));
        due("the other's score in 49", 98, () -> x.scoreIn(1, 49));
        due("leader in 49", 0, () -> x.leaderIn(49));
        due("leader in 50", 1, () -> x.leaderIn(50));
    }

    private static void leaderInOfSeveral() {
        due("all alike", 0, () -> with(20, 9, 20, 9, 20, 9).leaderIn(1));
        due("the guns 1 and 2", 1, () -> with(5, 9, 20, 9, 20, 9).leaderIn(1));
        due("the guns 3 and 5", 3, () -> with(5, 9, 5, 9, 5, 9, 20, 9, 5, 9, 20, 9).leaderIn(50));
    }

    private static void leaderInWithoutGuns() {
        ClayTraps x = new ClayTraps();
        due("in 1", -1, () -> x.leaderIn(1));
        due("in 50", -1, () -> x.leaderIn(50));
        x.pass(50);
        due("later", -1, () -> x.leaderIn(1));
        x.addGun(5, 1);
        due("with a gun", 0, () -> x.leaderIn(1));
    }

    private static void leaderInChangesNothing() {
        ClayTraps x = tired(6, 7);
        x.leaderIn(1);
        x.leaderIn(50);
        due("all answers", everything(tired(6, 7)), () -> everything(x));
    }

    private static void leaderInTurns() {
        ClayTraps x = with(20, 9);
        ClayTraps none = new ClayTraps();
        int[] outside = {0, 51, -1, Integer.MIN_VALUE, Integer.MAX_VALUE};
        for (int turns : outside) {
            due("turns " + turns, ARGUMENT, () -> x.leaderIn(turns));
            due("turns " + turns + " without guns", ARGUMENT, () -> none.leaderIn(turns));
        }
        due("turns 1", 0, () -> x.leaderIn(1));
        due("turns 50", 0, () -> x.leaderIn(50));
    }

    // ---- promise 25

    /** The gun 0 with the swing 5 misses all clays, but for those of the stand 4, to which it comes in the turn 20. */
    private static ClayTraps lastStand(int steadiness, int base, int spread) {
        ClayTraps x = flat(45, 5, steadiness);
        x.setTrap(4, base, spread);
        return x;
    }

    private static void restBehind0() {
        // In the turn 4, at -4, it is too tired for the first barrel; all other clays of 25 turns it misses.
        ClayTraps x = flat(45, 5, 1);
        x.setTrap(0, -9, 5);
        x.pass(4);
        due("best rest", 0, () -> x.bestRest(0));
        due("the score without a rest", 1, () -> x.scoreIn(0, 25));
        x.rest(0);
        due("the score with it", 2, () -> x.scoreIn(0, 25));
    }

    private static void restBehind20() {
        // From the turn 1 on, it misses in the turn 20, at -6, and then comes to -5, -4, -3, -2 with first barrels, if
        // it rests behind 20 turns; rested a turn earlier it has a fatigue of 2 there, and all are second ones.
        ClayTraps x = lastStand(1, -4, 2);
        x.pass(1);
        due("best rest", 20, () -> x.bestRest(0));
        due("score without a rest", 4, () -> x.scoreIn(0, 25));
        x.pass(20);
        x.rest(0);
        x.pass(5);
        due("score with it", 8, () -> x.scoreOf(0));
    }

    private static void restBehindEach() {
        // Its one clay that is no miss is the clay 4 of a stand, at -4; a miss behind the rest makes it too tired.
        for (int rest = 0; rest <= 20; rest++) {
            int turn = 5 + (24 - rest) % 5;
            int wanted = rest;
            ClayTraps x = flat(45, 5, 1);
            x.setTrap((turn + rest) / 5 % 5, -9, 5);
            x.pass(turn);
            due("from the turn " + turn + " on", wanted, () -> x.bestRest(0));
        }
    }

    private static void restBehind21IsTooLate() {
        // As above, but from the turn 0 on: the rest ahead of the turn 21 is 21 turns away, and each other is no use.
        due("best rest", 0, () -> lastStand(1, -4, 2).bestRest(0));
        due("a turn later", 20, () -> {
            ClayTraps x = lastStand(1, -4, 2);
            x.pass(1);
            return x.bestRest(0);
        });
    }

    private static void turn25Counts() {
        // It hits in the turn 24 alone, at -4, with the first barrel, if its fatigue is less than 16 then: rested ahead
        // of the turn 14, that ends with a walk, it is 0, 10 - 3, and 8 more; rested ahead of the turn 13, 1 more.
        due("best rest", 14, () -> lastStand(8, -9, 5).bestRest(0));
    }

    private static void turn26CountsNot() {
        // The turns 24 and 49 are the 1st and the 26th: in the first it is fresh anyhow, and the other does not count.
        ClayTraps fresh = lastStand(8, -9, 5);
        fresh.pass(24);
        fresh.rest(0);
        due("best rest", 0, () -> fresh.bestRest(0));
        fresh.pass(1);
        fresh.rest(0);
        due("best rest, as the turn 49 is the 25th", 14, () -> fresh.bestRest(0));
    }

    private static void restOfSeveral() {
        due("it hits all", 0, () -> flat(0, 60, 9).bestRest(0));
        due("it hits none", 0, () -> flat(45, 5, 1).bestRest(0));
        // 14 to 20 are alike here.
        due("14 to 20", 14, () -> lastStand(8, -9, 5).bestRest(0));
        due("14 to 20, of the last of six", 14, () -> {
            ClayTraps x = flat(45, 60, 9, 60, 9, 60, 9, 60, 9, 60, 9, 5, 8);
            x.setTrap(4, -9, 5);
            return x.bestRest(5);
        });
    }

    private static void bestRestChangesNothing() {
        ClayTraps x = tired(6, 7);
        for (int gun = 0; gun < 6; gun++) {
            x.bestRest(gun);
        }
        due("all answers", everything(tired(6, 7)), () -> everything(x));
    }

    private static void bestRestOfNoGun() {
        due("0 of none", OUT, () -> new ClayTraps().bestRest(0));
        due("-1 of 1", OUT, () -> flat(0, 60, 9).bestRest(-1));
        due("0 of 1", 0, () -> flat(0, 60, 9).bestRest(0));
        due("1 of 1", OUT, () -> flat(0, 60, 9).bestRest(1));
        ClayTraps six = flat(0, 60, 9, 60, 9, 60, 9, 60, 9, 60, 9, 60, 9);
        due("5 of 6", 0, () -> six.bestRest(5));
        due("6 of 6", OUT, () -> six.bestRest(6));
    }

    // ---- promise 26

    private static void leastSwing() {
        ClayTraps x = with(5, 1, 60, 9);
        due("new stands", 20, () -> x.swingWanted(0));
        due("whatever its swing", 20, () -> x.swingWanted(1));
        for (int base = 6; base <= 45; base++) {
            int b = base;
            setAllTraps(x, b, 0);
            due("all at " + b, b, () -> x.swingWanted(0));
        }
        setAllTraps(x, 20, 15);
        due("20 + 15", 35, () -> x.swingWanted(0));
        setAllTraps(x, -20, 16);
        due("-20 - 16", 36, () -> x.swingWanted(0));
    }

    private static void swingOf5() {
        due("all at 0", 5, () -> flat(0, 60, 9).swingWanted(0));
        due("all at 4", 5, () -> flat(4, 60, 9).swingWanted(0));
        due("all at -4", 5, () -> flat(-4, 60, 9).swingWanted(0));
        due("all at 5", 5, () -> flat(5, 60, 9).swingWanted(0));
        due("all at 6", 6, () -> flat(6, 60, 9).swingWanted(0));
    }

    private static void swingOf60() {
        ClayTraps x = with(5, 1);
        x.setTrap(0, 45, 15);
        due("45 + 15", 60, () -> x.swingWanted(0));
        x.setTrap(0, -15, 45);
        due("-15 - 45", 60, () -> x.swingWanted(0));
        x.setTrap(0, 45, 14);
        due("45 + 14", 59, () -> x.swingWanted(0));
    }

    private static void swingOf60IsNotEnough() {
        ClayTraps x = with(60, 9);
        x.setTrap(4, 45, 16);
        due("45 + 16", -1, () -> x.swingWanted(0));
        x.setTrap(4, -16, 45);
        due("-16 - 45", -1, () -> x.swingWanted(0));
        x.setTrap(4, 45, 45);
        due("45 + 45", -1, () -> x.swingWanted(0));
    }

    private static void noClayOfAnyStand() {
        for (int stand = 0; stand < 5; stand++) {
            ClayTraps x = flat(7, 60, 9, 60, 9);
            x.setTrap(stand, 20, 13);
            due("last clay of " + stand, 33, () -> x.swingWanted(0));
            due("last clay of " + stand + ", gun 1", 33, () -> x.swingWanted(1));
            x.setTrap(stand, -20, 14);
            due("first clay of " + stand, 34, () -> x.swingWanted(0));
            x.setTrap(stand, 6, 0);
            due("the other stands, not " + stand, 7, () -> x.swingWanted(0));
        }
    }

    private static void whateverItsFatigue() {
        ClayTraps x = flat(20, 20, 1);
        x.pass(50);
        due("tired", 20, () -> x.swingWanted(0));
        due("no miss with it", -1, () -> x.turnsUntilMiss(0));
        x.rest(0);
        due("rested", 20, () -> x.swingWanted(0));
    }

    private static void swingWantedOfNoGun() {
        due("0 of none", OUT, () -> new ClayTraps().swingWanted(0));
        due("-1 of 1", OUT, () -> with(5, 1).swingWanted(-1));
        due("0 of 1", 20, () -> with(5, 1).swingWanted(0));
        due("1 of 1", OUT, () -> with(5, 1).swingWanted(1));
        ClayTraps six = with(5, 1, 5, 1, 5, 1, 5, 1, 5, 1, 5, 1);
        due("5 of 6", 20, () -> six.swingWanted(5));
        due("6 of 6", OUT, () -> six.swingWanted(6));
    }

    // ---- promise 27

    private static void meanScore() {
        due("one gun with 0", 0.0, with(5, 1)::meanScore);
        ClayTraps one = flat(0, 60, 9);
        one.pass(3);
        due("one gun with 6", 6.0, one::meanScore);
        ClayTraps two = flat(0, 60, 9, 60, 9);
        two.shootOff();
        due("1 of 2 is not cut", 0.5, two::meanScore);
        two.pass(1);
        due("5 of 2 is not cut", 2.5, two::meanScore);
        ClayTraps six = flat(45, 5, 9, 5, 9, 5, 9, 5, 9, 5, 9, 60, 9);
        six.pass(2);
        due("4 of 6", 4.0 / 6.0, six::meanScore);
        ClayTraps long6 = flat(0, 60, 9, 60, 9, 60, 9, 60, 9, 60, 9, 60, 9);
        long6.pass(50);
        long6.shootOff();
        due("601 of 6", 601.0 / 6.0, long6::meanScore);
    }

    private static void meanScoreWithoutGuns() {
        ClayTraps x = new ClayTraps();
        due("new", 0.0, x::meanScore);
        x.pass(50);
        due("later", 0.0, x::meanScore);
    }

    // ---- promise 28

    private static final int[] NEW_STANDS = {-20, -10, 0, 10, 20, 0, -20, -10, 0, 10, 20, 0, -20, -10, 0, 10, 20, 0,
        -20, -10, 0, 10, 20, 0, -20, -10, 0, 10, 20, 0};

    /** The checksum's number without a bound: its lowest 64 bits are what it is as a 64-bit integer. */
    private static BigInteger unbounded(int[]... parts) {
        BigInteger d = BigInteger.valueOf(2137);
        for (int[] part : parts) {
            for (int x : part) {
                d = d.multiply(BigInteger.valueOf(31)).add(BigInteger.valueOf(x));
            }
        }
        return d;
    }

    private static void digestWithoutGuns() {
        ClayTraps x = new ClayTraps();
        due("new", unbounded(new int[] {0, 0, -1, 0, -1, -1}, NEW_STANDS).longValue(), x::digest);
        x.pass(50);
        due("in the turn 50", unbounded(new int[] {50, 0, -1, 0, -1, -1}, NEW_STANDS).longValue(), x::digest);
    }

    /**
     * The gun 0 hits with first barrels; the gun 1 gets tired, and comes to a clay that it misses in the turn 10. Its
     * best rest is ahead of the turn 22, that it may hit with first barrels up to the turn 30.
     */
    private static void digestWithGuns() {
        ClayTraps x = with(60, 9, 5, 1);
        x.setTrap(0, 1, 2);
        x.setTrap(1, -2, 3);
        x.setTrap(2, 3, 0);
        x.setTrap(3, 0, 45);
        x.setTrap(4, 45, 45);
        x.pass(7);
        int[] all = {7, 2, 0, 1, 0, 0};
        int[] stands = {-1, 0, 1, 2, 3, 4, -5, -3, -2, -1, 1, 0, 3, 3, 3, 3, 3, 0, -45, -22, 0, 22, 45, 0,
            0, 23, 45, 67, 90, 4};
        int[] gun0 = {1, -2, 14, 7, 0, 4, 2, 1, 17, 0};
        int[] gun1 = {2, 3, 13, 6, 0, 5, 1, 2, 4, 15};
        due("behind 7 turns", unbounded(all, stands, gun0, gun1).longValue(), x::digest);
        x.shootOff();
        int[] won = {1, -2, 15, 7, 0, 4, 2, 1, 17, 0};
        due("behind a shoot-off", unbounded(all, stands, won, gun1).longValue(), x::digest);
    }

    private static final int[] STANDS_OF_THE_LEADERS = {0, 0, 0, 0, 0, 0, 0, 0, 0, 0, 0, 0, 0, 0, 0, 0, 0, 0,
        0, 0, 0, 0, 0, 0, -1, 2, 5, 8, 11, 4};

    private static void digestAsksFor25Turns() {
        // The gun 0 misses the last clay of the stand 4 alone, and so falls behind in the turn 24, the 25th.
        ClayTraps x = flat(0, 10, 9, 60, 9);
        x.setTrap(4, 5, 6);
        due("leader in 24", 0, () -> x.leaderIn(24));
        due("leader in 25", 1, () -> x.leaderIn(25));
        int[] all = {0, 2, 0, 2, 1, 1};
        int[] gun0 = {0, 0, 0, 0, 0, 0, 2, 1, 25, 0};
        int[] gun1 = {1, 0, 0, 0, 0, 0, 2, 1, -1, 0};
        due("digest", unbounded(all, STANDS_OF_THE_LEADERS, gun0, gun1).longValue(), x::digest);
    }

    private static void digestAsksForNoMore() {
        // Here it is 2 ahead, misses in the turn 24, the 1st, and falls behind in the turn 49, the 26th.
        ClayTraps x = flat(45, 10, 9);
        x.pass(23);
        x.rest(0);
        setAllTraps(x, 0, 0);
        x.pass(1);
        x.addGun(60, 9);
        x.setTrap(4, 5, 6);
        due("leader in 25", 0, () -> x.leaderIn(25));
        due("leader in 26", 1, () -> x.leaderIn(26));
        int[] all = {24, 2, 0, 1, 0, 0};
        int[] gun0 = {4, 11, 2, 1, 23, 1, 0, 1, 1, 0};
        int[] gun1 = {0, 0, 0, 0, 0, 0, 2, 2, -1, 0};
        due("digest", unbounded(all, STANDS_OF_THE_LEADERS, gun0, gun1).longValue(), x::digest);
    }

    private static void digestWrapsAround() {
        // Each of these is far more than 64 bits hold; one wraps around to a number above 0, and one to one below 0.
        boolean above = false;
        boolean below = false;
        ClayTraps x = new ClayTraps();
        for (int turn = 0; turn < 10; turn++) {
            BigInteger d = unbounded(new int[] {turn, 0, -1, 0, -1, -1}, NEW_STANDS);
            BigInteger low = d.mod(BigInteger.ONE.shiftLeft(64));
            BigInteger want = low.testBit(63) ? low.subtract(BigInteger.ONE.shiftLeft(64)) : low;
            above = above || want.signum() > 0;
            below = below || want.signum() < 0;
            due("it is too great, turn " + turn, true, () -> d.bitLength() > 64);
            due("turn " + turn, want.longValueExact(), x::digest);
            x.pass(1);
        }
        boolean both = above && below;
        due("above 0 and below 0", true, () -> both);
    }
}
