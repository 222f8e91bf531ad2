import java.math.BigInteger;
import java.util.ArrayList;
import java.util.List;

/** A second bench, in the document's own words: slow, and each answer worked out anew. */
final class Model {
    private static final BigInteger MILLION = BigInteger.valueOf(1000000);

    // Rows as the calls give them.
    private final List<int[]> shafts = new ArrayList<>();
    private final List<int[]> gears = new ArrayList<>();
    private final List<int[]> meshes = new ArrayList<>();
    private final List<int[]> sets = new ArrayList<>();
    private final boolean[] held = new boolean[10];
    private int driver = -1;
    private int driverSpeed = 0;

    // What is told, for the latest call of tell().
    private final BigInteger[][] told = new BigInteger[10][];
    private final int[] stages = new int[10];

    int addShaft(int x, int y) {
        argue(isPlace(x) && isPlace(y));
        state(shafts.size() < 10);
        shafts.add(new int[] {x, y});
        return shafts.size() - 1;
    }

    int move(int shaft, int x, int y) {
        index(shaft, shafts);
        argue(isPlace(x) && isPlace(y));
        int[] row = shafts.get(shaft);
        int dx = x - row[0];
        int dy = y - row[1];
        row[0] = x;
        row[1] = y;
        return dx * dx + dy * dy;
    }

    int addGear(int shaft, int teeth, int module, int layer, boolean isRing) {
        index(shaft, shafts);
        argue(teeth >= 8 && teeth <= 200);
        argue(module >= 1 && module <= 10);
        argue(layer >= 0 && layer <= 5);
        state(gears.size() < 16);
        gears.add(new int[] {shaft, teeth, module, layer, isRing ? 1 : 0});
        return gears.size() - 1;
    }

    int mesh(int a, int b) {
        index(a, gears);
        index(b, gears);
        int[] first = gears.get(a);
        int[] second = gears.get(b);
        argue(first[0] != second[0]);
        argue(first[3] == second[3]);
        argue(first[2] == second[2]);
        argue(first[4] == 0 || second[4] == 0);
        argue(first[4] == 0 || first[1] > second[1]);
        argue(second[4] == 0 || second[1] > first[1]);
        argue(!areMeshed(a, b));
        state(meshes.size() < 16);
        meshes.add(new int[] {a, b});
        return meshes.size() - 1;
    }

    int unmesh() {
        state(!meshes.isEmpty());
        meshes.remove(meshes.size() - 1);
        return meshes.size();
    }

    int addPlanets(int sun, int ring, int carrier, int s, int p) {
        index(sun, shafts);
        index(ring, shafts);
        index(carrier, shafts);
        argue(sun != ring && ring != carrier && carrier != sun);
        argue(s >= 8 && s <= 100 && p >= 8 && p <= 100);
        state(sets.size() < 4);
        sets.add(new int[] {sun, ring, carrier, s, p});
        return sets.size() - 1;
    }

    int planets(int set, int most) {
        index(set, sets);
        argue(most >= 1 && most <= 12);
        int[] row = sets.get(set);
        int best = 0;
        for (int number = 1; number <= most; number++) {
            if ((row[3] + row[3] + 2 * row[4]) % number == 0) {
                best = number;
            }
        }
        return best;
    }

    int count(int what) {
        int[] counts = {shafts.size(), gears.size(), meshes.size(), sets.size()};
        if (what < 0 || what > 3) {
            throw new IndexOutOfBoundsException();
        }
        return counts[what];
    }

    int drive(int shaft, int speed) {
        index(shaft, shafts);
        argue(speed >= -1000 && speed <= 1000);
        int before = driver;
        driver = shaft;
        driverSpeed = speed;
        held[shaft] = false;
        return before;
    }

    boolean hold(int shaft, boolean isHeld) {
        index(shaft, shafts);
        state(driver != shaft);
        boolean before = held[shaft];
        held[shaft] = isHeld;
        return before;
    }

    boolean isTold(int shaft) {
        index(shaft, shafts);
        tell();
        return told[shaft] != null;
    }

    int speed(int shaft, boolean isDenominator) {
        index(shaft, shafts);
        tell();
        state(told[shaft] != null);
        return told[shaft][isDenominator ? 1 : 0].intValueExact();
    }

    int stage(int shaft) {
        index(shaft, shafts);
        tell();
        return told[shaft] == null ? -1 : stages[shaft];
    }

    double ratio(int a, int b) {
        index(a, shafts);
        index(b, shafts);
        tell();
        state(told[a] != null && told[b] != null && told[b][0].signum() != 0);
        double first = told[a][0].doubleValue() / told[a][1].doubleValue();
        double second = told[b][0].doubleValue() / told[b][1].doubleValue();
        return first / second;
    }

    int broken(boolean arePlanets) {
        tell();
        int those = 0;
        int count = arePlanets ? sets.size() : meshes.size();
        for (int k = 0; k < count; k++) {
            if (arePlanets ? isSetBroken(sets.get(k)) : isMeshBroken(meshes.get(k))) {
                those += (int) Math.pow(2, k);
            }
        }
        return those;
    }

    int free() {
        tell();
        int untold = 0;
        for (int k = 0; k < shafts.size(); k++) {
            if (told[k] == null) {
                untold++;
            }
        }
        return untold;
    }

    long torque(int shaft, int torque) {
        index(shaft, shafts);
        argue(torque >= 1 && torque <= 10000);
        tell();
        state(driver != -1 && told[shaft] != null && told[shaft][0].signum() != 0);
        BigInteger left = BigInteger.valueOf(torque);
        for (int k = 0; k < stages[shaft]; k++) {
            left = left.multiply(BigInteger.valueOf(98)).divide(BigInteger.valueOf(100));
        }
        left = left.multiply(BigInteger.valueOf(driverSpeed)).multiply(told[shaft][1]);
        return left.divide(told[shaft][0]).longValueExact();
    }

    int distance(int mesh) {
        index(mesh, meshes);
        int[] a = gears.get(meshes.get(mesh)[0]);
        int[] b = gears.get(meshes.get(mesh)[1]);
        if (a[4] == 1) {
            return a[2] * (a[1] - b[1]);
        }
        if (b[4] == 1) {
            return a[2] * (b[1] - a[1]);
        }
        return a[2] * (a[1] + b[1]);
    }

    int misfits() {
        int those = 0;
        for (int k = 0; k < meshes.size(); k++) {
            int due = distance(k);
            int[] row = meshes.get(k);
            if (square(gears.get(row[0])[0], gears.get(row[1])[0]) != (long) due * due) {
                those += (int) Math.pow(2, k);
            }
        }
        return those;
    }

    int collisions() {
        int pairs = 0;
        for (int b = 0; b < gears.size(); b++) {
            for (int a = 0; a < b; a++) {
                int[] first = gears.get(a);
                int[] second = gears.get(b);
                long sizes = sizeOf(first) + sizeOf(second);
                if (first[0] != second[0] && first[3] == second[3] && !areMeshed(a, b)
                        && square(first[0], second[0]) < sizes * sizes) {
                    pairs++;
                }
            }
        }
        return pairs;
    }

    int suggest(int p, int q, int least, int greatest) {
        argue(p >= 1 && p <= 10000 && q >= 1 && q <= 10000);
        argue(least >= 8 && greatest >= least && greatest <= 120);
        int bestA = 0;
        int bestB = 0;
        long bestOff = 0;
        // By the sum, then by a: so only a pair that is nearer takes the place of another one.
        for (int sum = 2 * least; sum <= 2 * greatest; sum++) {
            for (int a = least; a <= greatest; a++) {
                int b = sum - a;
                if (b >= least && b <= greatest) {
                    long off = Math.abs((long) a * q - (long) p * b);
                    if (bestB == 0 || off * bestB < bestOff * b) {
                        bestA = a;
                        bestB = b;
                        bestOff = off;
                    }
                }
            }
        }
        return bestA * 1000 + bestB;
    }

    long digest() {
        tell();
        List<Long> numbers = new ArrayList<>();
        numbers.add((long) shafts.size());
        for (int k = 0; k < shafts.size(); k++) {
            numbers.add((long) shafts.get(k)[0]);
            numbers.add((long) shafts.get(k)[1]);
            numbers.add(held[k] ? 1L : 0L);
            numbers.add(told[k] == null ? -1L : stages[k]);
            if (told[k] != null) {
                numbers.add(told[k][0].longValueExact());
                numbers.add(told[k][1].longValueExact());
            }
        }
        numbers.add((long) driver);
        numbers.add((long) gears.size());
        numbers.add((long) meshes.size());
        numbers.add((long) sets.size());
        numbers.add((long) broken(false));
        numbers.add((long) broken(true));
        numbers.add((long) misfits());
        long d = 263;
        for (long x : numbers) {
            d = d * 31 + x;
        }
        return d;
    }

    private void tell() {
        boolean[] asideMeshes = new boolean[meshes.size()];
        boolean[] asideSets = new boolean[sets.size()];
        for (int k = 0; k < 10; k++) {
            told[k] = null;
            stages[k] = 0;
        }
        for (int k = 0; k < shafts.size(); k++) {
            if (k == driver) {
                told[k] = fraction(BigInteger.valueOf(driverSpeed), BigInteger.ONE);
            } else if (held[k]) {
                told[k] = fraction(BigInteger.ZERO, BigInteger.ONE);
            }
        }
        while (tellByMesh(asideMeshes) || tellBySet(asideSets)) {
            continue;
        }
    }

    private boolean tellByMesh(boolean[] aside) {
        for (int k = 0; k < meshes.size(); k++) {
            int[] a = gears.get(meshes.get(k)[0]);
            int[] b = gears.get(meshes.get(k)[1]);
            if (!aside[k] && (told[a[0]] == null) != (told[b[0]] == null)) {
                int[] known = told[a[0]] == null ? b : a;
                int[] other = told[a[0]] == null ? a : b;
                int sign = a[4] + b[4] == 0 ? -1 : 1;
                BigInteger[] v = told[known[0]];
                BigInteger[] w = fraction(times(v[0], sign * known[1]), times(v[1], other[1]));
                if (isTooGreat(w)) {
                    aside[k] = true;
                } else {
                    told[other[0]] = w;
                    stages[other[0]] = stages[known[0]] + 1;
                }
                return true;
            }
        }
        return false;
    }

    private boolean tellBySet(boolean[] aside) {
        for (int k = 0; k < sets.size(); k++) {
            int[] row = sets.get(k);
            int missing = 0;
            for (int i = 0; i < 3; i++) {
                missing += told[row[i]] == null ? 1 : 0;
            }
            if (!aside[k] && missing == 1) {
                int s = row[3];
                int r = row[3] + 2 * row[4];
                BigInteger[] sun = told[row[0]];
                BigInteger[] ring = told[row[1]];
                BigInteger[] carrier = told[row[2]];
                int third;
                BigInteger[] w;
                if (sun == null) {
                    third = row[0];
                    w = weighed(carrier, s + r, ring, -r, s);
                } else if (ring == null) {
                    third = row[1];
                    w = weighed(carrier, s + r, sun, -s, r);
                } else {
                    third = row[2];
                    w = weighed(sun, s, ring, r, s + r);
                }
                if (isTooGreat(w)) {
                    aside[k] = true;
                } else {
                    int stage = 0;
                    for (int i = 0; i < 3; i++) {
                        stage = Math.max(stage, stages[row[i]] + 1);
                    }
                    told[third] = w;
                    stages[third] = stage;
                }
                return true;
            }
        }
        return false;
    }

    private boolean isMeshBroken(int[] row) {
        int[] a = gears.get(row[0]);
        int[] b = gears.get(row[1]);
        BigInteger[] v = told[a[0]];
        BigInteger[] w = told[b[0]];
        if (v == null || w == null) {
            return false;
        }
        BigInteger left = times(v[0], a[1]).multiply(w[1]);
        BigInteger right = times(w[0], b[1]).multiply(v[1]);
        return !left.equals(a[4] + b[4] == 0 ? right.negate() : right);
    }

    private boolean isSetBroken(int[] row) {
        BigInteger[] sun = told[row[0]];
        BigInteger[] ring = told[row[1]];
        BigInteger[] carrier = told[row[2]];
        if (sun == null || ring == null || carrier == null) {
            return false;
        }
        BigInteger[] ofSun = weighed(sun, 1, carrier, -1, 1);
        BigInteger[] ofRing = weighed(ring, 1, carrier, -1, 1);
        return weighed(ofSun, row[3], ofRing, row[3] + 2 * row[4], 1)[0].signum() != 0;
    }

    /** (v * a + w * b) / c. */
    private static BigInteger[] weighed(BigInteger[] v, int a, BigInteger[] w, int b, int c) {
        BigInteger over = times(v[0], a).multiply(w[1]).add(times(w[0], b).multiply(v[1]));
        return fraction(over, times(v[1].multiply(w[1]), c));
    }

    private static BigInteger times(BigInteger x, int factor) {
        return x.multiply(BigInteger.valueOf(factor));
    }

    private static BigInteger[] fraction(BigInteger over, BigInteger under) {
        BigInteger common = over.gcd(under);
        return new BigInteger[] {over.divide(common), under.divide(common)};
    }

    private static boolean isTooGreat(BigInteger[] w) {
        return w[0].abs().compareTo(MILLION) > 0 || w[1].compareTo(MILLION) > 0;
    }

    private boolean areMeshed(int a, int b) {
        for (int[] row : meshes) {
            if (row[0] == a && row[1] == b || row[0] == b && row[1] == a) {
                return true;
            }
        }
        return false;
    }

    private long square(int a, int b) {
        long dx = shafts.get(a)[0] - shafts.get(b)[0];
        long dy = shafts.get(a)[1] - shafts.get(b)[1];
        return dx * dx + dy * dy;
    }

    private static long sizeOf(int[] gear) {
        return gear[2] * (gear[1] + (gear[4] == 1 ? 6 : 2));
    }

    private static boolean isPlace(int x) {
        return x >= -1000 && x <= 1000;
    }

    private static void index(int number, List<int[]> rows) {
        if (number < 0 || number >= rows.size()) {
            throw new IndexOutOfBoundsException();
        }
    }

    private static void argue(boolean isRight) {
        if (!isRight) {
            throw new IllegalArgumentException();
        }
    }

    private static void state(boolean isRight) {
        if (!isRight) {
            throw new IllegalStateException();
        }
    }
}
