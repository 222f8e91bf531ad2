/** Long runs of made-up calls: each answer of the program is that of the model. */
public final class ModelTest {
    private static final int RUNS = 1500;
    private static final int CALLS = 512;
    private static final int[] WILD = {
        Integer.MIN_VALUE, Integer.MIN_VALUE + 1, -1001, -1000, -2, -1, 0, 1, 3, 4, 5, 6, 7, 8, 9,
        10, 11, 12, 13, 16, 17, 100, 101, 120, 121, 200, 201, 1000, 1001, 10000, 10001,
        Integer.MAX_VALUE - 1, Integer.MAX_VALUE
    };
    private static final int[] TEETH = {8, 9, 12, 20, 30, 60, 97, 100};
    private static final int[] PRIMES = {83, 89, 97, 101, 149, 167, 191, 193, 197, 199};

    private long seed;
    private boolean isWild;
    private boolean isPrime;
    private final int[] met = new int[22];
    private final int[] refused = new int[22];

    public static void main(String[] args) {
        ModelTest test = new ModelTest();
        for (int run = 0; run < RUNS; run++) {
            test.run(run);
        }
        for (int what = 0; what < 22; what++) {
            Check.same("kind " + what + " is answered often", test.met[what] > 1000, true);
            boolean isRefusable = what != 14 && what != 15 && what < 18 || what == 20;
            Check.same("kind " + what + " is refused, if it can be",
                    test.refused[what] > 100, isRefusable);
        }
        Check.end();
    }

    private void run(int number) {
        seed = 7919L * number + 17;
        isPrime = number % 3 == 0;
        GearTrains bench = new GearTrains();
        Model model = new Model();
        StringBuilder trail = new StringBuilder();
        for (int call = 0; call < CALLS; call++) {
            isWild = below(24) == 0;
            int what = call < 30 + below(60) ? builder() : below(22);
            int[] a = arguments(what, model);
            boolean is = below(2) == 0;
            String got = Check.outcome(() -> ask(bench, what, a, is));
            String want = Check.outcomeOfAny(() -> ask(model, what, a, is));
            if (Character.isLetter(want.charAt(0)) && want.endsWith("E") || want.equals("IOB")) {
                refused[what]++;
            } else {
                met[what]++;
            }
            trail.append(what).append(java.util.Arrays.toString(a)).append(is).append(' ');
            Check.same("run " + number + " call " + call, got, want);
            if (!got.equals(want)) {
                System.out.println(trail);
                return;
            }
        }
    }

    private int builder() {
        int[] builders = {0, 0, 2, 2, 2, 3, 3, 3, 5, 8, 9};
        return builders[below(builders.length)];
    }

    private int[] arguments(int what, Model model) {
        int[] a = {0, 0, 0, 0, 0};
        int shafts = Math.max(1, model.count(0));
        switch (what) {
            case 0:
                fill(a, place(), place());
                break;
            case 1:
                fill(a, below(shafts), place(), place());
                break;
            case 2:
                fill(a, below(shafts), teeth(), 1 + below(2), below(2));
                break;
            case 3:
                fill(a, below(Math.max(1, model.count(1))), below(Math.max(1, model.count(1))));
                break;
            case 5:
                fill(a, below(shafts), below(shafts), below(shafts), 8 + below(93), 8 + below(93));
                break;
            case 6:
                fill(a, below(Math.max(1, model.count(3))), 1 + below(12));
                break;
            case 7:
                fill(a, below(4));
                break;
            case 8:
                fill(a, below(shafts), isPrime ? 900 + below(101) : below(41) - 20);
                break;
            case 16:
                fill(a, below(shafts), 1 + below(10000));
                break;
            case 17:
                fill(a, below(Math.max(1, model.count(2))));
                break;
            case 20:
                fill(a, 1 + below(300), 1 + below(300), 8 + below(20), 20 + below(101));
                break;
            default:
                fill(a, below(shafts), below(shafts));
                break;
        }
        return a;
    }

    private void fill(int[] a, int... values) {
        for (int k = 0; k < values.length; k++) {
            a[k] = values[k];
        }
        if (isWild) {
            a[below(values.length)] = WILD[below(WILD.length)];
        }
    }

    // Few places, so that shafts come to stand on each other and gears fit.
    private int place() {
        return below(3) == 0 ? below(2001) - 1000 : 20 * (below(9) - 4);
    }

    private int teeth() {
        int[] choice = isPrime ? PRIMES : TEETH;
        return below(8) == 0 ? 8 + below(193) : choice[below(choice.length)];
    }

    // A row of numbers that is the same in each run of the test.
    private int below(int bound) {
        seed = seed * 6364136223846793005L + 1442695040888963407L;
        return (int) ((seed >>> 33) % bound);
    }

    private static Object ask(GearTrains bench, int what, int[] a, boolean is) {
        switch (what) {
            case 0: return bench.addShaft(a[0], a[1]);
            case 1: return bench.move(a[0], a[1], a[2]);
            case 2: return bench.addGear(a[0], a[1], a[2], a[3], is && a[1] % 2 == 0);
            case 3: return bench.mesh(a[0], a[1]);
            case 4: return bench.unmesh();
            case 5: return bench.addPlanets(a[0], a[1], a[2], a[3], a[4]);
            case 6: return bench.planets(a[0], a[1]);
            case 7: return bench.count(a[0]);
            case 8: return bench.drive(a[0], a[1]);
            case 9: return bench.hold(a[0], is);
            case 10: return bench.isTold(a[0]);
            case 11: return bench.speed(a[0], is);
            case 12: return bench.stage(a[0]);
            case 13: return bench.ratio(a[0], a[1]);
            case 14: return bench.broken(is);
            case 15: return bench.free();
            case 16: return bench.torque(a[0], a[1]);
            case 17: return bench.distance(a[0]);
            case 18: return bench.misfits();
            case 19: return bench.collisions();
            case 20: return bench.suggest(a[0], a[1], a[2], a[3]);
            default: return bench.digest();
        }
    }

    private static Object ask(Model bench, int what, int[] a, boolean is) {
        switch (what) {
            case 0: return bench.addShaft(a[0], a[1]);
            case 1: return bench.move(a[0], a[1], a[2]);
            case 2: return bench.addGear(a[0], a[1], a[2], a[3], is && a[1] % 2 == 0);
            case 3: return bench.mesh(a[0], a[1]);
            case 4: return bench.unmesh();
            case 5: return bench.addPlanets(a[0], a[1], a[2], a[3], a[4]);
            case 6: return bench.planets(a[0], a[1]);
            case 7: return bench.count(a[0]);
            case 8: return bench.drive(a[0], a[1]);
            case 9: return bench.hold(a[0], is);
            case 10: return bench.isTold(a[0]);
            case 11: return bench.speed(a[0], is);
            case 12: return bench.stage(a[0]);
            case 13: return bench.ratio(a[0], a[1]);
            case 14: return bench.broken(is);
            case 15: return bench.free();
            case 16: return bench.torque(a[0], a[1]);
            case 17: return bench.distance(a[0]);
            case 18: return bench.misfits();
            case 19: return bench.collisions();
            case 20: return bench.suggest(a[0], a[1], a[2], a[3]);
            default: return bench.digest();
        }
    }
}
