/** For each promise: ordinary inputs, the edges that the document names, and wrong inputs, worked out by hand. */
public final class PromiseTests extends Checks {
    private static final int[] WRONG_STANDS = {-1, 5, Integer.MIN_VALUE, Integer.MAX_VALUE};
    private static final int[] WRONG_TURNS = {0, 51, -1, Integer.MIN_VALUE, Integer.MAX_VALUE};

    public static void main(String[] args) {
        promise1NewObject();
        promise2AddGun();
        promise3SetTrap();
        promise4Rest();
        promise5Pass();
        promise6ShootOff();
        promise6ShootOffRounds();
        promise7Turn();
        promise8Angle();
        promise9HardestClay();
        promise10StandOf();
        promise11AngleFor();
        promise12Guns();
        promises13To16Records();
        promise17WouldHit();
        promise18Leader();
        promise19Tied();
        promise20RankOf();
        promise21ScoreIn();
        promise22TurnsUntilMiss();
        promise23LeaderIn();
        promise24WouldWin();
        promise25BestRest();
        promise26SwingWanted();
        promise27MeanScore();
        promise28Digest();
        noSuchGun();
        finish();
    }

    private static void promise1NewObject() {
        ClayTraps x = new ClayTraps();
        due("P1 turn", 0, x::turn);
        due("P1 guns", 0, x::guns);
        int[] angles = {-20, -10, 0, 10, 20};
        for (int stand = 0; stand < 5; stand++) {
            for (int clay = 0; clay < 5; clay++) {
                int s = stand;
                int c = clay;
                due("P1 angle " + s + " " + c, angles[c], () -> x.angle(s, c));
            }
            int s = stand;
            due("P1 first base of " + s, 0, () -> x.setTrap(s, 1, 1));
        }
    }

    private static void promise2AddGun() {
        ClayTraps x = new ClayTraps();
        int[] wrongSwings = {4, 61, 0, -5, Integer.MIN_VALUE, Integer.MAX_VALUE};
        int[] wrongSteadinesses = {0, 10, -1, Integer.MIN_VALUE, Integer.MAX_VALUE};
        for (int swing : wrongSwings) {
            due("P2 swing " + swing, ARGUMENT, () -> x.addGun(swing, 5));
        }
        for (int steadiness : wrongSteadinesses) {
            due("P2 steadiness " + steadiness, ARGUMENT, () -> x.addGun(20, steadiness));
        }
        due("P2 nothing was added", 0, x::guns);
        due("P2 least", 0, () -> x.addGun(5, 1));
        due("P2 greatest", 1, () -> x.addGun(60, 9));
        for (int gun = 2; gun < 6; gun++) {
            due("P2 gun " + gun, gun, () -> x.addGun(20, 5));
        }
        due("P2 seventh", STATE, () -> x.addGun(20, 5));
        due("P2 seventh and swing wrong", ARGUMENT, () -> x.addGun(4, 5));
        due("P2 seventh and steadiness wrong", ARGUMENT, () -> x.addGun(20, 10));
        due("P2 six guns", 6, x::guns);
        due("P2 new score", 0, () -> x.scoreOf(5));
        due("P2 new fatigue", 0, () -> x.fatigueOf(5));
        due("P2 swing of 0 counts", 0, () -> x.wouldHit(0));
        due("P2 swing of 1 counts", 2, () -> x.wouldHit(1));

        // A gun that is added late starts fresh, at the turn that it is then.
        ClayTraps late = with(20, 1);
        late.pass(7);
        late.addGun(15, 1);
        due("P2 late score", 0, () -> late.scoreOf(1));
        due("P2 late fatigue", 0, () -> late.fatigueOf(1));
        due("P2 late firsts", 0, () -> late.firstsOf(1));
        due("P2 late misses", 0, () -> late.missesOf(1));
        due("P2 late stand", 2, () -> late.standOf(1));
    }

    private static void promise3SetTrap() {
        ClayTraps x = new ClayTraps();
        due("P3 first base", 0, () -> x.setTrap(1, 7, 9));
        due("P3 base before", 7, () -> x.setTrap(1, -45, 0));
        due("P3 least base before", -45, () -> x.setTrap(1, 45, 45));
        due("P3 greatest base", 0, () -> x.angle(1, 0));
        due("P3 greatest angle", 90, () -> x.angle(1, 4));
        for (int stand : WRONG_STANDS) {
            due("P3 stand " + stand, OUT, () -> x.setTrap(stand, 0, 20));
            due("P3 stand " + stand + " and base wrong", OUT, () -> x.setTrap(stand, 46, 20));
            due("P3 stand " + stand + " and spread wrong", OUT, () -> x.setTrap(stand, 0, 46));
        }
        int[] wrongBases = {46, -46, Integer.MIN_VALUE, Integer.MAX_VALUE};
        for (int base : wrongBases) {
            due("P3 base " + base, ARGUMENT, () -> x.setTrap(1, base, 3));
        }
        int[] wrongSpreads = {-1, 46, Integer.MIN_VALUE, Integer.MAX_VALUE};
        for (int spread : wrongSpreads) {
            due("P3 spread " + spread, ARGUMENT, () -> x.setTrap(1, 3, spread));
        }
        due("P3 base stands", 45, () -> x.angle(1, 2));
        due("P3 spread stands", 90, () -> x.angle(1, 4));
        due("P3 stand 0 is as it was", -20, () -> x.angle(0, 0));
        due("P3 stand 2 is as it was", 20, () -> x.angle(2, 4));
        due("P3 stand 0 is one", 0, () -> x.setTrap(0, 1, 1));
        due("P3 stand 4 is one", 0, () -> x.setTrap(4, 1, 1));
    }

    private static void promise4Rest() {
        ClayTraps x = with(10, 1, 20, 9);
        x.pass(4);
        due("P4 fatigue before", 7, () -> x.rest(0));
        due("P4 fatigue behind", 0, () -> x.fatigueOf(0));
        due("P4 rested already", 0, () -> x.rest(0));
        due("P4 score stays", 4, () -> x.scoreOf(0));
        due("P4 the other stays tired", 4, () -> x.fatigueOf(1));
        due("P4 turn stays", 4, x::turn);
    }

    private static void promise5Pass() {
        ClayTraps x = with(15, 9, 20, 9, 5, 9);
        for (int turns : WRONG_TURNS) {
            due("P5 turns " + turns, ARGUMENT, () -> x.pass(turns));
        }
        due("P5 no turn went by", 0, x::turn);
        due("P5 nobody shot", 0, () -> x.fatigueOf(0));
        due("P5 one turn", 2, () -> x.pass(1));
        due("P5 four turns", 4, () -> x.pass(4));
        due("P5 fifty turns", 60, () -> x.pass(50));
        due("P5 turn", 55, x::turn);
        due("P5 misses of 0", 22, () -> x.missesOf(0));
        due("P5 misses of 1", 0, () -> x.missesOf(1));
        due("P5 misses of 2", 44, () -> x.missesOf(2));

        ClayTraps empty = new ClayTraps();
        due("P5 without guns", 0, () -> empty.pass(50));
        due("P5 turn without guns", 50, empty::turn);
    }

    private static void promise6ShootOff() {
        ClayTraps none = new ClayTraps();
        due("P6 without guns", STATE, none::shootOff);

        ClayTraps one = with(5, 1);
        due("P6 one gun", 0, one::shootOff);
        due("P6 one gun scores 1", 1, () -> one.scoreOf(0));
        due("P6 nobody shot", 0, () -> one.fatigueOf(0));

        ClayTraps ahead = with(20, 9, 60, 9, 20, 9);
        ahead.setTrap(0, 45, 0);
        ahead.setTrap(2, 45, 0);
        ahead.pass(1);
        due("P6 one gun has the greatest score", 1, ahead::shootOff);
        due("P6 it scores 1", 3, () -> ahead.scoreOf(1));
        due("P6 it did not shoot", 1, () -> ahead.fatigueOf(1));
        due("P6 the others did not shoot", 2, () -> ahead.fatigueOf(0));
    }

    private static void promise6ShootOffRounds() {
        ClayTraps second = with(5, 1, 6, 1);
        due("P6 angle 6, tired by it afterwards only", 1, second::shootOff);
        due("P6 round 1 alone", 1, () -> second.fatigueOf(0));
        due("P6 round 1 alone for 1", 1, () -> second.fatigueOf(1));
        due("P6 loser's score", 0, () -> second.scoreOf(0));
        due("P6 winner's score", 1, () -> second.scoreOf(1));
        due("P6 not a hit in turns", 0, () -> second.firstsOf(1));
        due("P6 not a miss in turns", 0, () -> second.missesOf(0));
        due("P6 no turn went by", 0, second::turn);

        // Round 3: angle 18, fatigue 2: trouble 20 for the first, 18 for the second.
        ClayTraps third = with(18, 1, 18, 9);
        due("P6 fatigue / steadiness counts", 1, third::shootOff);
        due("P6 three rounds", 3, () -> third.fatigueOf(0));
        due("P6 three rounds for 1", 3, () -> third.fatigueOf(1));

        ClayTraps noHits = with(5, 1, 5, 9, 5, 5);
        due("P6 none hits, the smallest number wins", 0, noHits::shootOff);
        due("P6 nine rounds", 9, () -> noHits.fatigueOf(2));
        due("P6 one score alone", 0, () -> noHits.scoreOf(2));

        ClayTraps allHit = with(5, 1, 60, 9, 60, 9);
        due("P6 both hit to the end, the smaller number wins", 1, allHit::shootOff);
        due("P6 nine rounds of those left", 9, () -> allHit.fatigueOf(2));
        due("P6 who is out shoots no more", 1, () -> allHit.fatigueOf(0));

        // The ninth round has the angle 54, and a fatigue of 8 / 9 adds 0.
        ClayTraps ninth = with(53, 9, 54, 9);
        due("P6 ninth round tells", 1, ninth::shootOff);
        due("P6 nine rounds of both", 9, () -> ninth.fatigueOf(0));

        ClayTraps twice = with(60, 9, 5, 9, 5, 9);
        due("P6 the great swing wins", 0, twice::shootOff);
        due("P6 then it wins without a shot", 0, twice::shootOff);
        due("P6 two wins", 2, () -> twice.scoreOf(0));
        due("P6 one round in both", 1, () -> twice.fatigueOf(0));

        ClayTraps outside = with(5, 9, 60, 9, 60, 9);
        setAllTraps(outside, 0, 0);
        outside.setTrap(0, 45, 0);
        outside.pass(1);
        due("P6 who is behind is no part of it", 1, outside::shootOff);
        due("P6 who is behind does not shoot", 2, () -> outside.fatigueOf(0));
        due("P6 of those ahead each shoots", 10, () -> outside.fatigueOf(2));
    }

    private static void promise7Turn() {
        ClayTraps x = with(20, 3);
        due("P7 at first", 0, x::turn);
        x.pass(3);
        due("P7 behind 3", 3, x::turn);
        x.pass(50);
        due("P7 behind 53", 53, x::turn);
    }

    private static void promise8Angle() {
        ClayTraps x = new ClayTraps();
        x.setTrap(3, -7, 15);
        // 15 * -2 / 2 = -15, 15 * -1 / 2 = -7 (cut towards 0), 0, 7, 15.
        int[] angles = {-22, -14, -7, 0, 8};
        for (int clay = 0; clay < 5; clay++) {
            int c = clay;
            due("P8 clay " + c, angles[c], () -> x.angle(3, c));
        }
        for (int n : WRONG_STANDS) {
            due("P8 stand " + n, OUT, () -> x.angle(n, 0));
            due("P8 clay " + n, OUT, () -> x.angle(0, n));
            due("P8 both " + n, OUT, () -> x.angle(n, n));
        }
        x.setTrap(4, -45, 45);
        due("P8 least", -90, () -> x.angle(4, 0));
    }

    private static void promise9HardestClay() {
        ClayTraps x = new ClayTraps();
        due("P9 of several the smallest", 0, () -> x.hardestClay(0));
        x.setTrap(1, 1, 20);
        due("P9 to the right", 4, () -> x.hardestClay(1));
        x.setTrap(2, -1, 20);
        due("P9 to the left", 0, () -> x.hardestClay(2));
        x.setTrap(3, 45, 0);
        due("P9 all alike", 0, () -> x.hardestClay(3));
        x.setTrap(4, 5, 1);
        due("P9 halves are cut", 4, () -> x.hardestClay(4));
        for (int stand : WRONG_STANDS) {
            due("P9 stand " + stand, OUT, () -> x.hardestClay(stand));
        }
    }

    private static void promise10StandOf() {
        ClayTraps x = with(20, 1, 20, 1, 20, 1, 20, 1, 20, 1, 20, 1);
        int[] first = {0, 1, 2, 3, 4, 0};
        int[] later = {1, 2, 3, 4, 0, 1};
        for (int gun = 0; gun < 6; gun++) {
            int g = gun;
            due("P10 turn 0, gun " + g, first[g], () -> x.standOf(g));
        }
        x.pass(4);
        due("P10 turn 4", 0, () -> x.standOf(0));
        x.pass(1);
        for (int gun = 0; gun < 6; gun++) {
            int g = gun;
            due("P10 turn 5, gun " + g, later[g], () -> x.standOf(g));
        }
        x.pass(20);
        due("P10 turn 25", 0, () -> x.standOf(0));
    }

    private static void promise11AngleFor() {
        ClayTraps x = with(20, 1, 20, 1);
        x.setTrap(0, 1, 10);
        x.setTrap(1, 2, 20);
        x.setTrap(2, 3, 30);
        due("P11 gun 0, turn 0", -9, () -> x.angleFor(0));
        due("P11 gun 1, turn 0", -18, () -> x.angleFor(1));
        x.pass(3);
        due("P11 gun 0, turn 3", 6, () -> x.angleFor(0));
        due("P11 gun 1, turn 3", 12, () -> x.angleFor(1));
        x.pass(6);
        due("P11 gun 0, turn 9", 22, () -> x.angleFor(0));
        due("P11 gun 1, turn 9", 33, () -> x.angleFor(1));
    }

    private static void promise12Guns() {
        ClayTraps x = new ClayTraps();
        due("P12 none", 0, x::guns);
        x.addGun(5, 1);
        due("P12 one", 1, x::guns);
        x.addGun(5, 1);
        x.pass(5);
        due("P12 two", 2, x::guns);
    }

    /** Swing 10, steadiness 1: miss, second barrel, first barrel, second barrel, miss and walk on. */
    private static void promises13To16Records() {
        int[] scores = {0, 1, 3, 4, 4};
        int[] firsts = {0, 0, 1, 1, 1};
        int[] misses = {1, 1, 1, 1, 2};
        int[] fatigues = {2, 4, 5, 7, 6};
        ClayTraps x = with(10, 1, 20, 9);
        due("P13 at first", 0, () -> x.scoreOf(0));
        due("P14 at first", 0, () -> x.firstsOf(0));
        due("P15 at first", 0, () -> x.missesOf(0));
        due("P16 at first", 0, () -> x.fatigueOf(0));
        for (int turn = 0; turn < 5; turn++) {
            int t = turn;
            x.pass(1);
            due("P13 turn " + t, scores[t], () -> x.scoreOf(0));
            due("P14 turn " + t, firsts[t], () -> x.firstsOf(0));
            due("P15 turn " + t, misses[t], () -> x.missesOf(0));
            due("P16 turn " + t, fatigues[t], () -> x.fatigueOf(0));
        }
        due("P13 all with the first barrel", 10, () -> x.scoreOf(1));
        due("P14 all with the first barrel", 5, () -> x.firstsOf(1));
        due("P15 all with the first barrel", 0, () -> x.missesOf(1));
        due("P16 all with the first barrel", 2, () -> x.fatigueOf(1));

        ClayTraps rested = with(60, 9);
        rested.pass(4);
        rested.rest(0);
        rested.pass(1);
        due("P16 at least 0", 0, () -> rested.fatigueOf(0));
    }

    private static void promise17WouldHit() {
        ClayTraps x = with(20, 1, 19, 1);
        due("P17 swing as great as the trouble", 2, () -> x.wouldHit(0));
        due("P17 swing 1 less", 0, () -> x.wouldHit(1));
        due("P17 nothing is changed", 0, () -> x.fatigueOf(0));
        due("P17 no score", 0, () -> x.scoreOf(0));
        due("P17 no first", 0, () -> x.firstsOf(0));
        due("P17 no miss", 0, () -> x.missesOf(1));
        x.pass(4);
        due("P17 tired: the second barrel", 1, () -> x.wouldHit(0));
        x.rest(0);
        due("P17 rested: the first barrel", 2, () -> x.wouldHit(0));

        // Steadiness 3: a fatigue of 4 counts 1, one of 2 counts 0.
        ClayTraps edge = with(10, 3);
        edge.pass(1);
        due("P17 10 + 2 / 3 is no more than 10", 2, () -> edge.wouldHit(0));
        edge.pass(2);
        due("P17 10 + 4 / 3 is more than 10", 1, () -> edge.wouldHit(0));
    }

    private static void promise18Leader() {
        due("P18 without guns", -1, () -> new ClayTraps().leader());
        ClayTraps x = with(5, 9, 20, 9, 20, 9);
        due("P18 of several the smallest", 0, x::leader);
        x.pass(2);
        due("P18 the greatest score, of several the smallest", 1, x::leader);
        x.rest(1);
        x.shootOff();
        due("P18 ahead by a shoot-off", 1, x::leader);

        ClayTraps last = with(5, 9, 5, 9, 20, 9);
        last.pass(1);
        due("P18 the last", 2, last::leader);
    }

    private static void promise19Tied() {
        due("P19 without guns", 0, () -> new ClayTraps().tied());
        ClayTraps x = with(5, 9, 20, 9, 20, 9);
        due("P19 all at first", 3, x::tied);
        x.pass(1);
        due("P19 two ahead", 2, x::tied);
        x.shootOff();
        due("P19 one ahead", 1, x::tied);
    }

    private static void promise20RankOf() {
        ClayTraps x = with(5, 9, 20, 9, 20, 9, 10, 9);
        due("P20 all alike", 1, () -> x.rankOf(3));
        x.pass(2);
        due("P20 scores 0 of 0, 4 of 1", 4, () -> x.rankOf(0));
        due("P20 first", 1, () -> x.rankOf(1));
        due("P20 first too", 1, () -> x.rankOf(2));
        due("P20 third", 3, () -> x.rankOf(3));

        ClayTraps falling = with(20, 9, 5, 9);
        falling.pass(1);
        due("P20 the gun 0 ahead", 1, () -> falling.rankOf(0));
        due("P20 behind the gun 0", 2, () -> falling.rankOf(1));
    }

    private static void promise21ScoreIn() {
        ClayTraps x = with(10, 1, 20, 9);
        int[] scores = {0, 1, 3, 4, 4};
        for (int turns = 1; turns <= 5; turns++) {
            int n = turns;
            due("P21 in " + n, scores[n - 1], () -> x.scoreIn(0, n));
        }
        due("P21 nothing is changed: turn", 0, x::turn);
        due("P21 nothing is changed: fatigue", 0, () -> x.fatigueOf(0));
        due("P21 nothing is changed: score", 0, () -> x.scoreOf(0));
        x.pass(3);
        ClayTraps later = with(10, 1, 20, 9);
        later.pass(3);
        later.pass(50);
        due("P21 fifty", later.scoreOf(0), () -> x.scoreIn(0, 50));
        due("P21 fifty of 1", later.scoreOf(1), () -> x.scoreIn(1, 50));
        for (int turns : WRONG_TURNS) {
            due("P21 turns " + turns, ARGUMENT, () -> x.scoreIn(0, turns));
            due("P21 no such gun and turns " + turns, OUT, () -> x.scoreIn(2, turns));
        }
    }

    private static void promise22TurnsUntilMiss() {
        ClayTraps x = with(10, 1, 20, 1);
        due("P22 in this one", 1, () -> x.turnsUntilMiss(0));
        due("P22 not by then", -1, () -> x.turnsUntilMiss(1));
        x.pass(1);
        due("P22 in four", 4, () -> x.turnsUntilMiss(0));
        due("P22 nothing is changed", 1, x::turn);

        // The gun 0 comes to the stand 4 in the turn 20; its clay 4 is that of the turn 24.
        ClayTraps far = with(20, 1);
        far.setTrap(4, 1, 20);
        due("P22 in 25", 25, () -> far.turnsUntilMiss(0));
        far.pass(25);
        due("P22 in 25 again", 25, () -> far.turnsUntilMiss(0));
        far.pass(24);
        due("P22 in this one then", 1, () -> far.turnsUntilMiss(0));
    }

    private static void promise23LeaderIn() {
        due("P23 without guns", -1, () -> new ClayTraps().leaderIn(1));
        ClayTraps x = with(5, 9, 20, 9, 20, 9);
        due("P23 in 1", 1, () -> x.leaderIn(1));
        due("P23 in 50", 1, () -> x.leaderIn(50));
        due("P23 nothing is changed", 0, x::leader);
        due("P23 no turn went by", 0, x::turn);
        ClayTraps empty = new ClayTraps();
        for (int turns : WRONG_TURNS) {
            due("P23 turns " + turns, ARGUMENT, () -> x.leaderIn(turns));
            due("P23 without guns, turns " + turns, ARGUMENT, () -> empty.leaderIn(turns));
        }

        // The guns are alike at first; the less steady one falls behind as it gets tired.
        ClayTraps tiring = with(20, 1, 20, 9);
        due("P23 alike in 1", 0, () -> tiring.leaderIn(1));
        due("P23 ahead in 5", 1, () -> tiring.leaderIn(5));
    }

    private static void promise24WouldWin() {
        due("P24 without guns", -1, () -> new ClayTraps().wouldWin());
        ClayTraps x = with(18, 1, 18, 9);
        due("P24 the steadier", 1, x::wouldWin);
        due("P24 nothing is changed: fatigue", 0, () -> x.fatigueOf(1));
        due("P24 nothing is changed: score", 0, () -> x.scoreOf(1));
        due("P24 again", 1, x::wouldWin);
        due("P24 so it comes", 1, x::shootOff);
        due("P24 the leader, then", 1, x::wouldWin);

        ClayTraps tired = with(6, 1, 6, 1);
        setAllTraps(tired, 0, 0);
        tired.pass(1);
        tired.rest(1);
        due("P24 fatigue counts", 1, tired::wouldWin);
    }

    private static void promise25BestRest() {
        ClayTraps never = with(60, 9);
        due("P25 all alike", 0, () -> never.bestRest(0));
        // Among these are a best rest behind 0, 1 and 20 turns, and one that 21 turns would beat.
        int[][] guns = {{20, 1}, {22, 2}, {25, 1}, {30, 3}, {12, 1}, {16, 3}};
        boolean last = false;
        for (int[] gun : guns) {
            for (int passed = 0; passed < 25; passed++) {
                int before = passed;
                int want = bestRestByTrying(gun, before);
                last = last || want == 20;
                ClayTraps x = tiredGun(gun, before);
                due("P25 swing " + gun[0] + " behind " + before, want, () -> x.bestRest(0));
                due("P25 nothing is changed", tiredGun(gun, before).digest(), x::digest);
            }
        }
        boolean some = last;
        due("P25 some rest is best behind 20", true, () -> some);
    }

    private static ClayTraps tiredGun(int[] gun, int turns) {
        ClayTraps x = with(gun[0], gun[1]);
        x.setTrap(1, 10, 15);
        x.setTrap(3, 0, 0);
        x.setTrap(4, -20, 10);
        if (turns > 0) {
            x.pass(turns);
        }
        return x;
    }

    private static int bestRestByTrying(int[] gun, int turns) {
        int best = -1;
        int bestScore = -1;
        for (int ahead = 0; ahead <= 20; ahead++) {
            ClayTraps x = tiredGun(gun, turns);
            if (ahead > 0) {
                x.pass(ahead);
            }
            x.rest(0);
            x.pass(25 - ahead);
            if (x.scoreOf(0) > bestScore) {
                bestScore = x.scoreOf(0);
                best = ahead;
            }
        }
        return best;
    }

    private static void promise26SwingWanted() {
        ClayTraps x = with(5, 1, 60, 9);
        due("P26 at first", 20, () -> x.swingWanted(0));
        due("P26 whatever its swing", 20, () -> x.swingWanted(1));
        x.setTrap(2, -30, 15);
        due("P26 the greatest amount of any stand", 45, () -> x.swingWanted(0));
        x.pass(3);
        due("P26 whatever its fatigue", 45, () -> x.swingWanted(0));
        x.setTrap(2, 30, 30);
        due("P26 60 is enough", 60, () -> x.swingWanted(0));
        x.setTrap(2, 31, 30);
        due("P26 60 is not enough", -1, () -> x.swingWanted(0));
        setAllTraps(x, 0, 0);
        due("P26 at least 5", 5, () -> x.swingWanted(0));
        setAllTraps(x, 5, 0);
        due("P26 just 5", 5, () -> x.swingWanted(0));
        x.setTrap(4, -6, 0);
        due("P26 one more at the last stand", 6, () -> x.swingWanted(0));
        x.setTrap(0, 7, 0);
        due("P26 one more at the stand 0", 7, () -> x.swingWanted(0));
    }

    private static void promise27MeanScore() {
        due("P27 without guns", 0.0, () -> new ClayTraps().meanScore());
        ClayTraps x = with(20, 9, 5, 9, 5, 9);
        due("P27 at first", 0.0, x::meanScore);
        x.pass(1);
        due("P27 2 of 3", 2.0 / 3, x::meanScore);
        x.pass(4);
        due("P27 14 of 3", 14.0 / 3, x::meanScore);
        ClayTraps six = with(5, 9, 5, 9, 5, 9, 5, 9, 20, 9, 20, 9);
        six.pass(1);
        due("P27 4 of 6", 4.0 / 6, six::meanScore);
    }

    private static void promise28Digest() {
        due("P28 without guns", digestOf(new ClayTraps()), () -> new ClayTraps().digest());
        ClayTraps x = with(18, 1, 22, 2, 40, 9, 5, 1, 20, 3, 20, 5);
        x.setTrap(1, 17, 25);
        x.setTrap(4, -33, 3);
        due("P28 at first", digestOf(x), x::digest);
        x.pass(13);
        due("P28 behind 13", digestOf(x), x::digest);
        x.shootOff();
        x.pass(29);
        due("P28 behind 42", digestOf(x), x::digest);
        due("P28 nothing is changed", digestOf(x), x::digest);

        // The gun 0 misses the clay 4 of one stand alone, and so falls behind in the 25th turn.
        ClayTraps lead = with(10, 9, 40, 9);
        setAllTraps(lead, 0, 0);
        lead.setTrap(4, 2, 10);
        due("P28 leader in 24", 0, () -> lead.leaderIn(24));
        due("P28 leader in 25", 1, () -> lead.leaderIn(25));
        due("P28 25 turns and not 24", digestOf(lead), lead::digest);

        // Here it is 3 ahead, misses now and in 25 turns, and so falls behind in the 26th turn.
        ClayTraps longer = with(10, 9, 40, 9);
        setAllTraps(longer, 0, 0);
        longer.setTrap(1, 45, 0);
        longer.pass(1);
        longer.shootOff();
        longer.setTrap(1, 0, 0);
        longer.pass(3);
        longer.setTrap(0, 2, 10);
        due("P28 leader in 25 still", 0, () -> longer.leaderIn(25));
        due("P28 leader in 26", 1, () -> longer.leaderIn(26));
        due("P28 25 turns and not 26", digestOf(longer), longer::digest);
    }

    private static long digestOf(ClayTraps x) {
        long d = 2137;
        long[] ofAll = {x.turn(), x.guns(), x.leader(), x.tied(), x.wouldWin(), x.leaderIn(25)};
        d = fold(d, ofAll);
        for (int s = 0; s < 5; s++) {
            long[] ofStand = {x.angle(s, 0), x.angle(s, 1), x.angle(s, 2), x.angle(s, 3), x.angle(s, 4), x.hardestClay(s)};
            d = fold(d, ofStand);
        }
        for (int g = 0; g < x.guns(); g++) {
            long[] ofGun = {x.standOf(g), x.angleFor(g), x.scoreOf(g), x.firstsOf(g), x.missesOf(g), x.fatigueOf(g),
                x.wouldHit(g), x.rankOf(g), x.turnsUntilMiss(g), x.bestRest(g)};
            d = fold(d, ofGun);
        }
        return d;
    }

    private static long fold(long start, long[] numbers) {
        long d = start;
        for (long x : numbers) {
            d = d * 31 + x;
        }
        return d;
    }

    private static void noSuchGun() {
        ClayTraps two = with(20, 3, 25, 4);
        ClayTraps none = new ClayTraps();
        long before = two.digest();
        int[] wrongGuns = {-1, 2, 5, 6, Integer.MIN_VALUE, Integer.MAX_VALUE};
        for (int gun : wrongGuns) {
            everyCallThrows(two, gun);
        }
        everyCallThrows(none, 0);
        due("nothing is changed by what throws", before, two::digest);
        ClayTraps six = with(20, 3, 20, 3, 20, 3, 20, 3, 20, 3, 20, 3);
        everyCallThrows(six, 6);
    }

    private static void everyCallThrows(ClayTraps x, int gun) {
        due("P4 rest " + gun, OUT, () -> x.rest(gun));
        due("P10 standOf " + gun, OUT, () -> x.standOf(gun));
        due("P11 angleFor " + gun, OUT, () -> x.angleFor(gun));
        due("P13 scoreOf " + gun, OUT, () -> x.scoreOf(gun));
        due("P14 firstsOf " + gun, OUT, () -> x.firstsOf(gun));
        due("P15 missesOf " + gun, OUT, () -> x.missesOf(gun));
        due("P16 fatigueOf " + gun, OUT, () -> x.fatigueOf(gun));
        due("P17 wouldHit " + gun, OUT, () -> x.wouldHit(gun));
        due("P20 rankOf " + gun, OUT, () -> x.rankOf(gun));
        due("P21 scoreIn " + gun, OUT, () -> x.scoreIn(gun, 1));
        due("P22 turnsUntilMiss " + gun, OUT, () -> x.turnsUntilMiss(gun));
        due("P25 bestRest " + gun, OUT, () -> x.bestRest(gun));
        due("P26 swingWanted " + gun, OUT, () -> x.swingWanted(gun));
    }
}
