import java.lang.reflect.InvocationTargetException;
import java.lang.reflect.Method;
import java.util.ArrayList;
import java.util.Arrays;
import java.util.List;
import java.util.Random;

/**
 * Plays long runs of calls on ClayTraps and on a model of the document at once, and compares each answer. The model
 * follows the document step by step, all guns in each turn, and tries what would be on a copy of all that there is.
 */
public final class ModelTests {
    private static final int RUNS = 400;
    private static final int CALLS = 512;
    private static final String[] GUN_CALLS = {"rest", "standOf", "angleFor", "scoreOf", "firstsOf", "missesOf",
        "fatigueOf", "wouldHit", "rankOf", "turnsUntilMiss", "bestRest", "swingWanted"};
    private static final String[] PLAIN_CALLS = {"shootOff", "turn", "guns", "leader", "tied", "wouldWin", "meanScore",
        "digest"};

    private static int wrong = 0;

    public static void main(String[] args) throws Exception {
        Random random = new Random(2137);
        for (int run = 0; run < RUNS && wrong < 20; run++) {
            playRun(run, random);
        }
        dearestRun();
        System.out.println(wrong == 0 ? "all answers are as due" : wrong + " answers are not as due");
        if (wrong != 0) {
            System.exit(1);
        }
    }

    private static void playRun(int run, Random random) throws Exception {
        ClayTraps x = new ClayTraps();
        Model model = new Model();
        int addsFirst = random.nextInt(9);
        List<String> calls = new ArrayList<>();
        for (int i = 0; i < CALLS; i++) {
            String name = i < addsFirst ? "addGun" : anyCall(random);
            int[] numbers = numbersFor(name, random);
            calls.add(name + Arrays.toString(numbers));
            Object got = answer(x, name, numbers);
            Object want = answer(model, name, numbers);
            if (!want.equals(got)) {
                wrong++;
                System.out.println("run " + run + ", " + calls + " answered " + got + ", due is " + want);
                return;
            }
        }
    }

    private static void dearestRun() throws Exception {
        ClayTraps x = new ClayTraps();
        Model model = new Model();
        for (int gun = 0; gun < 6; gun++) {
            x.addGun(10 + 7 * gun, 1 + gun);
            model.addGun(10 + 7 * gun, 1 + gun);
        }
        for (int i = 6; i < CALLS; i += 2) {
            int turns = 1 + i % 50;
            if (x.pass(turns) != model.pass(turns) || x.digest() != model.digest()) {
                wrong++;
                System.out.println("dearest run: wrong at the call " + i);
                return;
            }
        }
    }

    private static String anyCall(Random random) {
        int dice = random.nextInt(100);
        if (dice < 12) {
            return "pass";
        }
        if (dice < 22) {
            return "setTrap";
        }
        if (dice < 27) {
            return random.nextInt(8) == 0 ? "addGun" : "shootOff";
        }
        if (dice < 40) {
            String[] names = {"scoreIn", "leaderIn", "angle", "hardestClay"};
            return names[random.nextInt(names.length)];
        }
        if (dice < 80) {
            return GUN_CALLS[random.nextInt(GUN_CALLS.length)];
        }
        return PLAIN_CALLS[random.nextInt(PLAIN_CALLS.length)];
    }

    private static int[] numbersFor(String name, Random random) {
        switch (name) {
            case "addGun":
                return numbers(near(5, 60, random), near(1, 9, random));
            case "setTrap":
                return numbers(near(0, 4, random), near(-45, 45, random), near(0, 45, random));
            case "pass":
            case "leaderIn":
                return numbers(near(1, random.nextInt(3) == 0 ? 50 : 6, random));
            case "scoreIn":
                return numbers(near(0, 5, random), near(1, 50, random));
            case "angle":
                return numbers(near(0, 4, random), near(0, 4, random));
            case "hardestClay":
                return numbers(near(0, 4, random));
            default:
                return Arrays.asList(PLAIN_CALLS).contains(name) ? numbers() : numbers(near(0, 5, random));
        }
    }

    private static int[] numbers(int... numbers) {
        return numbers;
    }

    /** A number from least to most, now and then an edge, one just outside, or one far out. */
    private static int near(int least, int most, Random random) {
        int dice = random.nextInt(60);
        if (dice == 0) {
            return least - 1;
        }
        if (dice == 1) {
            return most + 1;
        }
        if (dice == 2) {
            return random.nextInt();
        }
        if (dice < 9) {
            return dice < 6 ? least : most;
        }
        return least + random.nextInt(most - least + 1);
    }

    private static Object answer(Object target, String name, int[] numbers) throws Exception {
        Class<?>[] types = new Class<?>[numbers.length];
        Object[] boxed = new Object[numbers.length];
        for (int i = 0; i < numbers.length; i++) {
            types[i] = int.class;
            boxed[i] = numbers[i];
        }
        Method method = target.getClass().getDeclaredMethod(name, types);
        try {
            return method.invoke(target, boxed);
        } catch (InvocationTargetException e) {
            return e.getCause().getClass();
        }
    }

    private static final class Gun {
        int number;
        int swing;
        int steadiness;
        int fatigue;
        int score;
        int firsts;
        int misses;

        Gun copy() {
            Gun gun = new Gun();
            gun.number = number;
            gun.swing = swing;
            gun.steadiness = steadiness;
            gun.fatigue = fatigue;
            gun.score = score;
            gun.firsts = firsts;
            gun.misses = misses;
            return gun;
        }
    }

    static final class Model {
        private final int[] base = new int[5];
        private final int[] spread = {20, 20, 20, 20, 20};
        private final List<Gun> guns = new ArrayList<>();
        private int turn;

        private Model copy() {
            Model copy = new Model();
            System.arraycopy(base, 0, copy.base, 0, 5);
            System.arraycopy(spread, 0, copy.spread, 0, 5);
            for (Gun gun : guns) {
                copy.guns.add(gun.copy());
            }
            copy.turn = turn;
            return copy;
        }

        private Gun gun(int number) {
            out(number < 0 || number >= guns.size());
            return guns.get(number);
        }

        private static void out(boolean is) {
            if (is) {
                throw new IndexOutOfBoundsException();
            }
        }

        private static void argument(boolean is) {
            if (is) {
                throw new IllegalArgumentException();
            }
        }

        int addGun(int swing, int steadiness) {
            argument(swing < 5 || swing > 60 || steadiness < 1 || steadiness > 9);
            if (guns.size() == 6) {
                throw new IllegalStateException();
            }
            Gun gun = new Gun();
            gun.number = guns.size();
            gun.swing = swing;
            gun.steadiness = steadiness;
            guns.add(gun);
            return gun.number;
        }

        int setTrap(int stand, int newBase, int newSpread) {
            out(stand < 0 || stand > 4);
            argument(newBase < -45 || newBase > 45 || newSpread < 0 || newSpread > 45);
            int before = base[stand];
            base[stand] = newBase;
            spread[stand] = newSpread;
            return before;
        }

        int rest(int number) {
            Gun gun = gun(number);
            int before = gun.fatigue;
            gun.fatigue = 0;
            return before;
        }

        int pass(int turns) {
            argument(turns < 1 || turns > 50);
            return go(turns);
        }

        private int go(int turns) {
            int misses = 0;
            for (int i = 0; i < turns; i++) {
                for (Gun gun : guns) {
                    misses += shoot(gun) == 0 ? 1 : 0;
                }
                if (turn % 5 == 4) {
                    for (Gun gun : guns) {
                        gun.fatigue = Math.max(gun.fatigue - 3, 0);
                    }
                }
                turn++;
            }
            return misses;
        }

        private int shoot(Gun gun) {
            int amount = Math.abs(angleFor(gun.number));
            int trouble = amount + gun.fatigue / gun.steadiness;
            if (trouble <= gun.swing) {
                gun.score += 2;
                gun.fatigue += 1;
                gun.firsts++;
                return 2;
            }
            gun.fatigue += 2;
            if (amount <= gun.swing) {
                gun.score += 1;
                return 1;
            }
            gun.misses++;
            return 0;
        }

        int shootOff() {
            if (guns.isEmpty()) {
                throw new IllegalStateException();
            }
            int greatest = guns.stream().mapToInt(gun -> gun.score).max().getAsInt();
            List<Gun> left = new ArrayList<>(guns);
            left.removeIf(gun -> gun.score != greatest);
            int k = 1;
            while (left.size() > 1 && k <= 9) {
                List<Gun> hit = new ArrayList<>();
                for (Gun gun : left) {
                    if (6 * k + gun.fatigue / gun.steadiness <= gun.swing) {
                        hit.add(gun);
                    }
                    gun.fatigue++;
                }
                if (!hit.isEmpty()) {
                    left = hit;
                }
                k++;
            }
            left.get(0).score++;
            return left.get(0).number;
        }

        int turn() {
            return turn;
        }

        int angle(int stand, int clay) {
            out(stand < 0 || stand > 4 || clay < 0 || clay > 4);
            int product = spread[stand] * (clay - 2);
            int half = Math.abs(product) >> 1;
            return base[stand] + (product < 0 ? -half : half);
        }

        int hardestClay(int stand) {
            out(stand < 0 || stand > 4);
            int hardest = 4;
            for (int clay = 3; clay >= 0; clay--) {
                if (Math.abs(angle(stand, clay)) >= Math.abs(angle(stand, hardest))) {
                    hardest = clay;
                }
            }
            return hardest;
        }

        int standOf(int number) {
            return (gun(number).number + turn / 5) % 5;
        }

        int angleFor(int number) {
            return angle(standOf(number), turn % 5);
        }

        int guns() {
            return guns.size();
        }

        int scoreOf(int number) {
            return gun(number).score;
        }

        int firstsOf(int number) {
            return gun(number).firsts;
        }

        int missesOf(int number) {
            return gun(number).misses;
        }

        int fatigueOf(int number) {
            return gun(number).fatigue;
        }

        int wouldHit(int number) {
            gun(number);
            Model copy = copy();
            return copy.shoot(copy.gun(number));
        }

        int leader() {
            int leader = -1;
            for (Gun gun : guns) {
                if (leader < 0 || gun.score > guns.get(leader).score) {
                    leader = gun.number;
                }
            }
            return leader;
        }

        int tied() {
            return (int) guns.stream().filter(gun -> gun.score == guns.get(leader()).score).count();
        }

        int rankOf(int number) {
            Gun one = gun(number);
            return 1 + (int) guns.stream().filter(gun -> gun.score > one.score).count();
        }

        int scoreIn(int number, int turns) {
            gun(number);
            Model copy = copy();
            copy.pass(turns);
            return copy.scoreOf(number);
        }

        int turnsUntilMiss(int number) {
            gun(number);
            Model copy = copy();
            for (int turns = 1; turns <= 100; turns++) {
                int before = copy.missesOf(number);
                copy.pass(1);
                if (copy.missesOf(number) > before) {
                    return turns;
                }
            }
            return -1;
        }

        int leaderIn(int turns) {
            Model copy = copy();
            copy.pass(turns);
            return copy.leader();
        }

        int wouldWin() {
            return guns.isEmpty() ? -1 : copy().shootOff();
        }

        int bestRest(int number) {
            gun(number);
            int best = -1;
            int bestScore = -1;
            for (int ahead = 0; ahead <= 20; ahead++) {
                Model copy = copy();
                copy.go(ahead);
                copy.rest(number);
                copy.go(25 - ahead);
                if (copy.scoreOf(number) > bestScore) {
                    bestScore = copy.scoreOf(number);
                    best = ahead;
                }
            }
            return best;
        }

        int swingWanted(int number) {
            gun(number);
            for (int swing = 5; swing <= 60; swing++) {
                if (missesNone(swing)) {
                    return swing;
                }
            }
            return -1;
        }

        private boolean missesNone(int swing) {
            for (int i = 0; i < 25; i++) {
                if (Math.abs(angle(i / 5, i % 5)) > swing) {
                    return false;
                }
            }
            return true;
        }

        double meanScore() {
            double sum = 0;
            for (Gun gun : guns) {
                sum += gun.score;
            }
            return guns.isEmpty() ? 0 : sum / guns.size();
        }

        long digest() {
            List<Integer> numbers = new ArrayList<>(
                Arrays.asList(turn(), guns(), leader(), tied(), wouldWin(), leaderIn(25)));
            for (int s = 0; s < 5; s++) {
                for (int c = 0; c < 5; c++) {
                    numbers.add(angle(s, c));
                }
                numbers.add(hardestClay(s));
            }
            for (int g = 0; g < guns(); g++) {
                numbers.addAll(Arrays.asList(standOf(g), angleFor(g), scoreOf(g), firstsOf(g), missesOf(g),
                    fatigueOf(g), wouldHit(g), rankOf(g), turnsUntilMiss(g), bestRest(g)));
            }
            long d = 2137;
            for (int number : numbers) {
                d = d * 31 + number;
            }
            return d;
        }
    }
}
