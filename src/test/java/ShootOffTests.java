/** A test of its own for each sentence on shoot-offs: in "Terms", and in the promises 6 and 24; worked out by hand. */
public final class ShootOffTests extends Checks {
    public static void main(String[] args) {
        sentence("of all guns with the greatest score", ShootOffTests::ofAllWithTheGreatestScore);
        sentence("of all guns with the greatest score, which may be 0", ShootOffTests::ofAllAtFirst);
        sentence("round k, from 1: the angle 6 * k", ShootOffTests::firstRound);
        sentence("the angle 6 * k in each round", ShootOffTests::eachRoundsAngle);
        sentence("round k, to 9: the angle 54", ShootOffTests::ninthRound);
        sentence("with the first barrel alone", ShootOffTests::firstBarrelAlone);
        sentence("the fatigue is 1 more, with a hit and without", ShootOffTests::fatigueIs1More);
        sentence("if the trouble ahead of that is no more than the swing", ShootOffTests::troubleAheadOfThat);
        sentence("the trouble has fatigue / steadiness in it", ShootOffTests::steadinessCounts);
        sentence("If some hit, those who do not are out", ShootOffTests::whoDoesNotHitIsOut);
        sentence("if none does, all stay", ShootOffTests::noneHits);
        sentence("if none does, all stay: those who are left", ShootOffTests::noneOfThoseLeftHits);
        sentence("It ends as one is left", ShootOffTests::endsAsOneIsLeft);
        sentence("or behind the round 9", ShootOffTests::endsBehindRound9);
        sentence("of those left the one with the smallest number wins", ShootOffTests::smallestNumberWins);
        sentence("The score of the one who wins is 1 more", ShootOffTests::winnersScore);
        sentence("With one gun alone: the only gun", ShootOffTests::theOnlyGun);
        sentence("With one gun alone that has the greatest score", ShootOffTests::oneGunAhead);
        sentence("A shoot-off is no turn", ShootOffTests::noTurn);
        sentence("Promise 6: Returns the gun that wins", ShootOffTests::answersTheWinner);
        sentence("Promise 6: IllegalStateException if there are no guns", ShootOffTests::noGuns);
        sentence("Promise 24: Returns the gun that would win a shoot-off now", ShootOffTests::wouldWin);
        sentence("Promise 24: now, with the fatigue that there is", ShootOffTests::wouldWinNow);
        sentence("Promise 24: -1 without guns", ShootOffTests::wouldWinWithoutGuns);
        sentence("Promise 24: one gun alone", ShootOffTests::wouldWinAlone);
        sentence("Promise 24: nothing is changed", ShootOffTests::wouldWinChangesNothing);
        finish();
    }

    private static void fatiguesDue(ClayTraps x, int... fatigues) {
        for (int gun = 0; gun < fatigues.length; gun++) {
            int g = gun;
            due("fatigue of " + g, fatigues[g], () -> x.fatigueOf(g));
        }
    }

    private static void scoresDue(ClayTraps x, int... scores) {
        for (int gun = 0; gun < scores.length; gun++) {
            int g = gun;
            due("score of " + g, scores[g], () -> x.scoreOf(g));
        }
    }

    /** The guns 0 and 5, at the stand 0, miss the clay at -90; the others hit theirs. */
    private static ClayTraps twoBehind() {
        ClayTraps x = flat(0, 60, 9, 5, 9, 7, 9, 5, 9, 5, 9, 60, 9);
        x.setTrap(0, -45, 45);
        x.pass(1);
        return x;
    }

    private static void ofAllWithTheGreatestScore() {
        ClayTraps x = twoBehind();
        due("shootOff", 2, x::shootOff);
        scoresDue(x, 0, 2, 3, 2, 2, 0);
        fatiguesDue(x, 2, 2, 2, 2, 2, 2);
    }

    private static void ofAllAtFirst() {
        ClayTraps x = with(5, 9, 5, 9, 5, 9, 5, 9, 5, 9, 6, 9);
        due("shootOff", 5, x::shootOff);
        scoresDue(x, 0, 0, 0, 0, 0, 1);
        fatiguesDue(x, 1, 1, 1, 1, 1, 1);
    }

    private static void firstRound() {
        ClayTraps x = with(5, 9, 6, 9);
        due("5 against 6", 1, x::shootOff);
        fatiguesDue(x, 1, 1);
        ClayTraps y = with(6, 9, 5, 9);
        due("6 against 5", 0, y::shootOff);
        fatiguesDue(y, 1, 1);
    }

    private static void eachRoundsAngle() {
        // With the steadiness 9, eight rounds' fatigue adds nothing.
        for (int round = 1; round <= 9; round++) {
            ClayTraps x = with(6 * round - 1, 9, 6 * round, 9);
            due("round " + round + " tells", 1, x::shootOff);
            fatiguesDue(x, round, round);
        }
        for (int round = 2; round <= 9; round++) {
            ClayTraps x = with(6 * round - 2, 9, 6 * round - 1, 9);
            due("no round tells, " + round, 0, x::shootOff);
            fatiguesDue(x, 9, 9);
        }
    }

    private static void ninthRound() {
        ClayTraps x = with(53, 9, 54, 9);
        due("53 against 54", 1, x::shootOff);
        fatiguesDue(x, 9, 9);
        ClayTraps y = with(54, 9, 55, 9);
        due("54 against 55", 0, y::shootOff);
        fatiguesDue(y, 9, 9);
    }

    /** Two guns with the swing 6: the first has a fatigue of 1, the second one has none. */
    private static ClayTraps firstTired(int steadiness) {
        ClayTraps x = flat(0, 6, steadiness, 6, steadiness);
        x.pass(1);
        x.rest(1);
        return x;
    }

    private static void firstBarrelAlone() {
        // A second barrel would hit the angle 6, so that both would stay, and the gun 0 would win.
        ClayTraps x = firstTired(1);
        due("shootOff", 1, x::shootOff);
        fatiguesDue(x, 2, 1);
        scoresDue(x, 2, 3);
    }

    private static void fatigueIs1More() {
        ClayTraps x = with(5, 9, 20, 9);
        x.shootOff();
        due("without a hit", 1, () -> x.fatigueOf(0));
        due("with a hit", 1, () -> x.fatigueOf(1));
    }

    private static void troubleAheadOfThat() {
        // If its own shot's fatigue counted, the gun 1 would have a trouble of 7, and none would hit.
        ClayTraps x = with(5, 1, 6, 1);
        due("6 + 0 / 1 is no more than 6", 1, x::shootOff);
        fatiguesDue(x, 1, 1);
        // In the round 2 the fatigue of the round 1 counts: 12 + 1 / 1.
        ClayTraps y = with(12, 1, 13, 1);
        due("12 + 1 / 1 is no more than 13", 1, y::shootOff);
        fatiguesDue(y, 2, 2);
    }

    private static void steadinessCounts() {
        ClayTraps x = with(18, 1, 18, 2, 18, 3);
        due("in the round 3, 18 + 2 / 1, 18 + 2 / 2, 18 + 2 / 3", 2, x::shootOff);
        fatiguesDue(x, 3, 3, 3);
        due("6 + 1 / 1 is more than 6", 1, firstTired(1)::shootOff);
        due("6 + 1 / 2 is not", 0, firstTired(2)::shootOff);
    }

    private static void whoDoesNotHitIsOut() {
        ClayTraps x = with(5, 9, 6, 9, 60, 9, 12, 9, 60, 9, 5, 9);
        due("shootOff", 2, x::shootOff);
        fatiguesDue(x, 1, 2, 9, 3, 9, 1);
    }

    private static void noneHits() {
        ClayTraps x = with(5, 1, 5, 9, 5, 5);
        due("shootOff", 0, x::shootOff);
        fatiguesDue(x, 9, 9, 9);
        scoresDue(x, 1, 0, 0);
    }

    private static void noneOfThoseLeftHits() {
        // Who is out stays out, in the rounds without a hit, too: 12 hits in two rounds, and in none behind them.
        ClayTraps x = with(5, 9, 12, 9, 12, 9);
        due("shootOff", 1, x::shootOff);
        fatiguesDue(x, 1, 9, 9);
    }

    private static void endsAsOneIsLeft() {
        ClayTraps x = with(60, 9, 12, 9, 5, 9);
        due("shootOff", 0, x::shootOff);
        fatiguesDue(x, 3, 3, 1);
    }

    private static void endsBehindRound9() {
        ClayTraps x = with(60, 9, 60, 9);
        due("both hit in each round", 0, x::shootOff);
        fatiguesDue(x, 9, 9);
        ClayTraps y = with(5, 9, 5, 9);
        due("none hits in any round", 0, y::shootOff);
        fatiguesDue(y, 9, 9);
    }

    private static void smallestNumberWins() {
        due("of 0 to 5", 0, with(60, 9, 60, 9, 60, 9, 60, 9, 60, 9, 60, 9)::shootOff);
        due("of 1 to 5", 1, with(5, 9, 60, 9, 60, 9, 60, 9, 60, 9, 60, 9)::shootOff);
        due("of 2 and 4", 2, with(5, 9, 53, 9, 60, 9, 53, 9, 60, 9, 5, 9)::shootOff);
        due("of 4 and 5", 4, with(5, 9, 5, 9, 5, 9, 5, 9, 60, 9, 60, 9)::shootOff);
    }

    private static void winnersScore() {
        ClayTraps x = with(20, 9, 30, 9, 20, 9);
        x.pass(5);
        scoresDue(x, 10, 10, 10);
        due("shootOff", 1, x::shootOff);
        scoresDue(x, 10, 11, 10);
        due("shootOff again", 1, x::shootOff);
        scoresDue(x, 10, 12, 10);
    }

    private static void theOnlyGun() {
        ClayTraps x = with(5, 1);
        due("shootOff", 0, x::shootOff);
        due("shootOff again", 0, x::shootOff);
        scoresDue(x, 2);
        fatiguesDue(x, 0);
    }

    private static void oneGunAhead() {
        // The gun 4 alone hits; in a shoot-off of all it would be out first.
        ClayTraps x = flat(45, 44, 9, 44, 9, 44, 9, 44, 9, 5, 9, 44, 9);
        x.setTrap(4, 0, 0);
        x.pass(1);
        due("shootOff", 4, x::shootOff);
        scoresDue(x, 0, 0, 0, 0, 3, 0);
        fatiguesDue(x, 2, 2, 2, 2, 1, 2);
    }

    private static void noTurn() {
        ClayTraps x = with(18, 1, 18, 9);
        x.pass(4);
        due("turn ahead of it", 4, x::turn);
        int firsts = x.firstsOf(1);
        int misses = x.missesOf(0);
        x.shootOff();
        due("turn behind it", 4, x::turn);
        due("firsts", firsts, () -> x.firstsOf(1));
        due("misses", misses, () -> x.missesOf(0));
        due("the clay is as it was", 20, () -> x.angleFor(0));
    }

    private static void answersTheWinner() {
        due("the only one", 0, with(5, 1)::shootOff);
        due("the first of two", 0, with(6, 1, 5, 1)::shootOff);
        due("the last of six", 5, with(5, 9, 5, 9, 5, 9, 5, 9, 5, 9, 60, 9)::shootOff);
    }

    private static void noGuns() {
        ClayTraps x = new ClayTraps();
        due("new", STATE, x::shootOff);
        x.pass(3);
        due("later", STATE, x::shootOff);
        x.addGun(5, 1);
        due("with a gun", 0, x::shootOff);
    }

    private static void wouldWin() {
        due("round 1 tells", 1, with(5, 9, 6, 9)::wouldWin);
        due("round 3 tells", 2, with(18, 1, 18, 2, 18, 3)::wouldWin);
        due("round 9 tells", 1, with(53, 9, 54, 9)::wouldWin);
        due("none hits", 0, with(5, 9, 5, 9)::wouldWin);
        due("all hit", 0, with(60, 9, 60, 9)::wouldWin);
        due("the last of six", 5, with(5, 9, 5, 9, 5, 9, 5, 9, 5, 9, 60, 9)::wouldWin);
        due("of those with the greatest score", 2, twoBehind()::wouldWin);
    }

    private static void wouldWinNow() {
        ClayTraps x = firstTired(1);
        due("the gun 0 is tired", 1, x::wouldWin);
        x.rest(0);
        due("none is", 0, x::wouldWin);
    }

    private static void wouldWinWithoutGuns() {
        ClayTraps x = new ClayTraps();
        due("new", -1, x::wouldWin);
        x.pass(3);
        due("later", -1, x::wouldWin);
    }

    private static void wouldWinAlone() {
        due("the only gun", 0, with(5, 1)::wouldWin);
        ClayTraps ahead = flat(45, 44, 9, 5, 9);
        ahead.setTrap(1, 0, 0);
        ahead.pass(1);
        due("one gun ahead", 1, ahead::wouldWin);
    }

    private static void wouldWinChangesNothing() {
        ClayTraps x = with(18, 1, 18, 9, 5, 1);
        due("wouldWin", 1, x::wouldWin);
        scoresDue(x, 0, 0, 0);
        fatiguesDue(x, 0, 0, 0);
        due("tied", 3, x::tied);
        due("wouldWin again", 1, x::wouldWin);
        due("so it comes", 1, x::shootOff);
        fatiguesDue(x, 3, 3, 1);
    }
}
