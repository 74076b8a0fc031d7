/** Clay pigeons: guns go on from stand to stand, and traps throw clays at them at angles. */
public final class ClayTraps {
    private static final int STANDS = 5;
    private static final int CLAYS = 5;
    private static final int MAX_GUNS = 6;
    private static final int FIRST_SPREAD = 20;
    private static final int MAX_BASE = 45;
    private static final int MAX_SPREAD = 45;
    private static final int MIN_SWING = 5;
    private static final int MAX_SWING = 60;
    private static final int MAX_STEADINESS = 9;
    private static final int MAX_TURNS = 50;
    private static final int MISS_HORIZON = 100;
    private static final int LAST_REST = 20;
    private static final int REST_HORIZON = 25;
    private static final int DIGEST_HORIZON = 25;
    private static final int ROUNDS = 9;
    private static final int ROUND_ANGLE = 6;
    private static final int WALK_REST = 3;

    private static final int FIRST_BARREL = 2;
    private static final int SECOND_BARREL = 1;
    private static final int MISS = 0;
    private static final int NO_GUN = -1;

    private final Traps traps = new Traps();
    private final Squad squad = new Squad();
    /** What would be is played with this copy, so that the squad itself stays as it is. */
    private final Squad trial = new Squad();
    private int turn;

    public ClayTraps() {
    }

    // ---- what is set up

    public int addGun(int swing, int steadiness) throws IllegalArgumentException, IllegalStateException {
        if (swing < MIN_SWING || swing > MAX_SWING) {
            throw new IllegalArgumentException("swing is not 5 to 60");
        }
        if (steadiness < 1 || steadiness > MAX_STEADINESS) {
            throw new IllegalArgumentException("steadiness is not 1 to 9");
        }
        if (squad.size >= MAX_GUNS) {
            throw new IllegalStateException("there are 6 guns");
        }
        return squad.enter(swing, steadiness);
    }

    public int setTrap(int stand, int base, int spread) throws IndexOutOfBoundsException, IllegalArgumentException {
        checkStand(stand);
        if (base < -MAX_BASE || base > MAX_BASE) {
            throw new IllegalArgumentException("base is not -45 to 45");
        }
        if (spread < 0 || spread > MAX_SPREAD) {
            throw new IllegalArgumentException("spread is not 0 to 45");
        }
        int before = traps.bases[stand];
        traps.bases[stand] = base;
        traps.spreads[stand] = spread;
        return before;
    }

    public int rest(int gun) throws IndexOutOfBoundsException {
        checkGun(gun);
        int before = squad.fatigues[gun];
        squad.fatigues[gun] = 0;
        return before;
    }

    public int pass(int turns) throws IllegalArgumentException {
        checkTurns(turns);
        int misses = squad.play(traps, turn, turns);
        turn += turns;
        return misses;
    }

    public int shootOff() throws IllegalStateException {
        if (squad.size == 0) {
            throw new IllegalStateException("there are no guns");
        }
        return squad.settleTie();
    }

    // ---- clays

    public int turn() {
        return turn;
    }

    public int angle(int stand, int clay) throws IndexOutOfBoundsException {
        checkStand(stand);
        if (clay < 0 || clay >= CLAYS) {
            throw new IndexOutOfBoundsException("clay is not 0 to 4");
        }
        return traps.angleAt(stand, clay);
    }

    public int hardestClay(int stand) throws IndexOutOfBoundsException {
        checkStand(stand);
        return traps.hardestAt(stand);
    }

    public int standOf(int gun) throws IndexOutOfBoundsException {
        checkGun(gun);
        return standIn(turn, gun);
    }

    public int angleFor(int gun) throws IndexOutOfBoundsException {
        checkGun(gun);
        return traps.angleIn(turn, gun);
    }

    // ---- guns

    public int guns() {
        return squad.size;
    }

    public int scoreOf(int gun) throws IndexOutOfBoundsException {
        checkGun(gun);
        return squad.scores[gun];
    }

    public int firstsOf(int gun) throws IndexOutOfBoundsException {
        checkGun(gun);
        return squad.firsts[gun];
    }

    public int missesOf(int gun) throws IndexOutOfBoundsException {
        checkGun(gun);
        return squad.misses[gun];
    }

    public int fatigueOf(int gun) throws IndexOutOfBoundsException {
        checkGun(gun);
        return squad.fatigues[gun];
    }

    public int wouldHit(int gun) throws IndexOutOfBoundsException {
        checkGun(gun);
        return squad.outcome(gun, traps.amountIn(turn, gun));
    }

    public int leader() {
        return squad.leading();
    }

    public int tied() {
        return squad.countTied();
    }

    public int rankOf(int gun) throws IndexOutOfBoundsException {
        checkGun(gun);
        return 1 + squad.countAbove(squad.scores[gun]);
    }

    // ---- what would be

    public int scoreIn(int gun, int turns) throws IndexOutOfBoundsException, IllegalArgumentException {
        checkGun(gun);
        checkTurns(turns);
        trial.takeOver(squad);
        trial.playAlone(traps, gun, turn, turns);
        return trial.scores[gun];
    }

    public int turnsUntilMiss(int gun) throws IndexOutOfBoundsException {
        checkGun(gun);
        // No shot needs to be tried: a miss hangs on the angle alone, and not on the fatigue.
        for (int ahead = 0; ahead < MISS_HORIZON; ahead++) {
            if (traps.amountIn(turn + ahead, gun) > squad.swings[gun]) {
                return ahead + 1;
            }
        }
        return -1;
    }

    public int leaderIn(int turns) throws IllegalArgumentException {
        checkTurns(turns);
        trial.takeOver(squad);
        trial.play(traps, turn, turns);
        return trial.leading();
    }

    public int wouldWin() {
        trial.takeOver(squad);
        return trial.settleTie();
    }

    public int bestRest(int gun) throws IndexOutOfBoundsException {
        checkGun(gun);
        int best = 0;
        int bestScore = scoreWithRest(gun, 0);
        for (int ahead = 1; ahead <= LAST_REST; ahead++) {
            int score = scoreWithRest(gun, ahead);
            if (score > bestScore) {
                best = ahead;
                bestScore = score;
            }
        }
        return best;
    }

    public int swingWanted(int gun) throws IndexOutOfBoundsException {
        checkGun(gun);
        // The second barrel hits at any fatigue, so that the greatest angle alone tells.
        int wanted = Math.max(MIN_SWING, traps.greatestAmount());
        return wanted > MAX_SWING ? -1 : wanted;
    }

    public double meanScore() {
        if (squad.size == 0) {
            return 0.0;
        }
        return (double) squad.totalScore() / squad.size;
    }

    public long digest() {
        long d = 2137;
        d = fold(d, turn());
        d = fold(d, guns());
        d = fold(d, leader());
        d = fold(d, tied());
        d = fold(d, wouldWin());
        d = fold(d, leaderIn(DIGEST_HORIZON));
        for (int stand = 0; stand < STANDS; stand++) {
            for (int clay = 0; clay < CLAYS; clay++) {
                d = fold(d, angle(stand, clay));
            }
            d = fold(d, hardestClay(stand));
        }
        for (int gun = 0; gun < squad.size; gun++) {
            d = fold(d, standOf(gun));
            d = fold(d, angleFor(gun));
            d = fold(d, scoreOf(gun));
            d = fold(d, firstsOf(gun));
            d = fold(d, missesOf(gun));
            d = fold(d, fatigueOf(gun));
            d = fold(d, wouldHit(gun));
            d = fold(d, rankOf(gun));
            d = fold(d, turnsUntilMiss(gun));
            d = fold(d, bestRest(gun));
        }
        return d;
    }

    // ---- helpers

    private static void checkStand(int stand) {
        if (stand < 0 || stand >= STANDS) {
            throw new IndexOutOfBoundsException("stand is not 0 to 4");
        }
    }

    private void checkGun(int gun) {
        if (gun < 0 || gun >= squad.size) {
            throw new IndexOutOfBoundsException("there is no such gun");
        }
    }

    private static void checkTurns(int turns) {
        if (turns < 1 || turns > MAX_TURNS) {
            throw new IllegalArgumentException("turns is not 1 to 50");
        }
    }

    // floorMod, not %: an index stays in its row in any state, even one that 512 calls can't bring about.
    private static int clayIn(int turn) {
        return Math.floorMod(turn, CLAYS);
    }

    private static int standIn(int turn, int gun) {
        return Math.floorMod(gun + turn / CLAYS, STANDS);
    }

    private int scoreWithRest(int gun, int ahead) {
        trial.takeOver(squad);
        trial.playAlone(traps, gun, turn, ahead);
        trial.fatigues[gun] = 0;
        trial.playAlone(traps, gun, turn + ahead, REST_HORIZON - ahead);
        return trial.scores[gun];
    }

    private static long fold(long d, long x) {
        return d * 31 + x;
    }

    /** The traps of the five stands. Its methods are asked about stands and clays that are there. */
    private static final class Traps {
        final int[] bases = new int[STANDS];
        final int[] spreads = new int[STANDS];

        Traps() {
            for (int stand = 0; stand < STANDS; stand++) {
                spreads[stand] = FIRST_SPREAD;
            }
        }

        int angleAt(int stand, int clay) {
            return bases[stand] + spreads[stand] * (clay - 2) / 2;
        }

        int angleIn(int turn, int gun) {
            return angleAt(standIn(turn, gun), clayIn(turn));
        }

        int amountAt(int stand, int clay) {
            return Math.abs(angleAt(stand, clay));
        }

        int amountIn(int turn, int gun) {
            return Math.abs(angleIn(turn, gun));
        }

        int hardestAt(int stand) {
            int hardest = 0;
            for (int clay = 1; clay < CLAYS; clay++) {
                if (amountAt(stand, clay) > amountAt(stand, hardest)) {
                    hardest = clay;
                }
            }
            return hardest;
        }

        int greatestAmount() {
            int greatest = 0;
            for (int stand = 0; stand < STANDS; stand++) {
                greatest = Math.max(greatest, amountAt(stand, hardestAt(stand)));
            }
            return greatest;
        }
    }

    /** The guns, a place in each row for one. Its methods are asked about guns that are there. */
    private static final class Squad {
        final int[] swings = new int[MAX_GUNS];
        final int[] steadinesses = new int[MAX_GUNS];
        final int[] fatigues = new int[MAX_GUNS];
        final int[] scores = new int[MAX_GUNS];
        final int[] firsts = new int[MAX_GUNS];
        final int[] misses = new int[MAX_GUNS];
        /** Who is left in a shoot-off, and who hits in its round. */
        final boolean[] left = new boolean[MAX_GUNS];
        final boolean[] hits = new boolean[MAX_GUNS];
        int size;

        /** There must be a place left. */
        int enter(int swing, int steadiness) {
            int gun = size;
            swings[gun] = swing;
            steadinesses[gun] = steadiness;
            size = gun + 1;
            return gun;
        }

        void takeOver(Squad other) {
            size = other.size;
            for (int gun = 0; gun < size; gun++) {
                swings[gun] = other.swings[gun];
                steadinesses[gun] = other.steadinesses[gun];
                fatigues[gun] = other.fatigues[gun];
                scores[gun] = other.scores[gun];
                firsts[gun] = other.firsts[gun];
                misses[gun] = other.misses[gun];
            }
        }

        int trouble(int gun, int amount) {
            int steadiness = steadinesses[gun];
            // addGun lets no steadiness below 1 in, but a divisor is to be looked at before it divides.
            return steadiness < 1 ? amount : amount + fatigues[gun] / steadiness;
        }

        int outcome(int gun, int amount) {
            if (trouble(gun, amount) <= swings[gun]) {
                return FIRST_BARREL;
            }
            return amount <= swings[gun] ? SECOND_BARREL : MISS;
        }

        void shoot(int gun, int amount) {
            int outcome = outcome(gun, amount);
            scores[gun] += outcome;
            fatigues[gun] += outcome == FIRST_BARREL ? 1 : 2;
            if (outcome == FIRST_BARREL) {
                firsts[gun]++;
            }
            if (outcome == MISS) {
                misses[gun]++;
            }
        }

        /** No gun's shots change another gun, so that each may be played without the others. */
        void playAlone(Traps traps, int gun, int firstTurn, int turns) {
            for (int ahead = 0; ahead < turns; ahead++) {
                int turn = firstTurn + ahead;
                shoot(gun, traps.amountIn(turn, gun));
                if (clayIn(turn) == CLAYS - 1) {
                    fatigues[gun] = Math.max(0, fatigues[gun] - WALK_REST);
                }
            }
        }

        /** Answers how many misses there are in these turns. */
        int play(Traps traps, int firstTurn, int turns) {
            int missed = 0;
            for (int gun = 0; gun < size; gun++) {
                int before = misses[gun];
                playAlone(traps, gun, firstTurn, turns);
                missed += misses[gun] - before;
            }
            return missed;
        }

        int leading() {
            int best = NO_GUN;
            for (int gun = 0; gun < size; gun++) {
                if (best == NO_GUN || scores[gun] > scores[best]) {
                    best = gun;
                }
            }
            return best;
        }

        int countTied() {
            int best = leading();
            int tied = 0;
            for (int gun = 0; gun < size; gun++) {
                if (best != NO_GUN && scores[gun] == scores[best]) {
                    tied++;
                }
            }
            return tied;
        }

        int countAbove(int score) {
            int above = 0;
            for (int gun = 0; gun < size; gun++) {
                if (scores[gun] > score) {
                    above++;
                }
            }
            return above;
        }

        int totalScore() {
            int total = 0;
            for (int gun = 0; gun < size; gun++) {
                total += scores[gun];
            }
            return total;
        }

        /** Holds a shoot-off, and answers the gun that wins. */
        int settleTie() {
            int best = leading();
            if (best == NO_GUN) {
                return NO_GUN;
            }
            for (int gun = 0; gun < size; gun++) {
                left[gun] = scores[gun] == scores[best];
            }
            for (int round = 1; round <= ROUNDS && countLeft() > 1; round++) {
                shootRound(ROUND_ANGLE * round);
            }
            int winner = firstLeft();
            if (winner != NO_GUN) {
                scores[winner]++;
            }
            return winner;
        }

        void shootRound(int amount) {
            boolean someHit = false;
            for (int gun = 0; gun < size; gun++) {
                hits[gun] = left[gun] && trouble(gun, amount) <= swings[gun];
                someHit = someHit || hits[gun];
                if (left[gun]) {
                    fatigues[gun]++;
                }
            }
            if (someHit) {
                keepThoseWhoHit();
            }
        }

        void keepThoseWhoHit() {
            for (int gun = 0; gun < size; gun++) {
                left[gun] = hits[gun];
            }
        }

        int countLeft() {
            int count = 0;
            for (int gun = 0; gun < size; gun++) {
                if (left[gun]) {
                    count++;
                }
            }
            return count;
        }

        int firstLeft() {
            for (int gun = 0; gun < size; gun++) {
                if (left[gun]) {
                    return gun;
                }
            }
            return NO_GUN;
        }
    }
}
