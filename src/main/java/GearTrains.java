import java.util.ArrayList;

/**
 * A bench for gear trains: shafts in a plane, gears on them, meshes and planet sets that tie the
 * speeds of shafts to each other.
 */
public final class GearTrains {
    private static final int MOST_SHAFTS = 10;
    private static final int MOST_GEARS = 16;
    private static final int MOST_MESHES = 16;
    private static final int MOST_SETS = 4;

    // A step tells a shaft or leaves a mesh or a set aside, so there can't be more of them.
    private static final int MOST_STEPS = MOST_SHAFTS + MOST_MESHES + MOST_SETS;

    // Euclid's algorithm ends after fewer divisions than this for any two longs.
    private static final int MOST_DIVISIONS = 100;

    private static final int FARTHEST = 1000;
    private static final int FASTEST = 1000;
    private static final long GREATEST_TOLD = 1000000L;
    private static final int NO_SHAFT = -1;
    private static final int NOT_TOLD = -1;

    private final ArrayList<Shaft> shafts;
    private final ArrayList<Gear> gears;
    private final ArrayList<Mesh> meshes;
    private final ArrayList<PlanetSet> sets;
    private int driver;
    private int driverSpeed;

    public GearTrains() {
        shafts = new ArrayList<Shaft>();
        gears = new ArrayList<Gear>();
        meshes = new ArrayList<Mesh>();
        sets = new ArrayList<PlanetSet>();
        driver = NO_SHAFT;
        driverSpeed = 0;
    }

    // ---- shafts and gears

    public int addShaft(int x, int y) throws IllegalArgumentException, IllegalStateException {
        requirePlace(x, y);
        if (shafts.size() >= MOST_SHAFTS) {
            throw new IllegalStateException("no more shafts");
        }
        shafts.add(new Shaft(x, y));
        return shafts.size() - 1;
    }

    public int move(int shaft, int x, int y)
            throws IndexOutOfBoundsException, IllegalArgumentException {
        requireShaft(shaft);
        requirePlace(x, y);
        Shaft moved = shafts.get(shaft);
        int way = moved.squareTo(x, y);
        moved.x = x;
        moved.y = y;
        return way;
    }

    public int addGear(int shaft, int teeth, int module, int layer, boolean isRing)
            throws IndexOutOfBoundsException, IllegalArgumentException, IllegalStateException {
        requireShaft(shaft);
        if (!isWithin(teeth, 8, 200) || !isWithin(module, 1, 10) || !isWithin(layer, 0, 5)) {
            throw new IllegalArgumentException("no such kind of gear");
        }
        if (gears.size() >= MOST_GEARS) {
            throw new IllegalStateException("no more gears");
        }
        gears.add(new Gear(shafts.get(shaft), teeth, module, layer, isRing));
        return gears.size() - 1;
    }

    public int mesh(int a, int b)
            throws IndexOutOfBoundsException, IllegalArgumentException, IllegalStateException {
        requireGear(a);
        requireGear(b);
        Gear first = gears.get(a);
        Gear second = gears.get(b);
        if (!first.suits(second) || areMeshed(first, second)) {
            throw new IllegalArgumentException("these gears can't be meshed");
        }
        if (meshes.size() >= MOST_MESHES) {
            throw new IllegalStateException("no more meshes");
        }
        meshes.add(new Mesh(first, second));
        tellSpeeds();
        return meshes.size() - 1;
    }

    public int unmesh() throws IllegalStateException {
        if (meshes.isEmpty()) {
            throw new IllegalStateException("no mesh to take away");
        }
        meshes.remove(meshes.size() - 1);
        tellSpeeds();
        return meshes.size();
    }

    public int addPlanets(int sun, int ring, int carrier, int s, int p)
            throws IndexOutOfBoundsException, IllegalArgumentException, IllegalStateException {
        requireShaft(sun);
        requireShaft(ring);
        requireShaft(carrier);
        if (sun == ring || sun == carrier || ring == carrier) {
            throw new IllegalArgumentException("a shaft stands twice in the set");
        }
        if (!isWithin(s, 8, 100) || !isWithin(p, 8, 100)) {
            throw new IllegalArgumentException("no such number of teeth");
        }
        if (sets.size() >= MOST_SETS) {
            throw new IllegalStateException("no more planet sets");
        }
        sets.add(new PlanetSet(shafts.get(sun), shafts.get(ring), shafts.get(carrier), s, p));
        tellSpeeds();
        return sets.size() - 1;
    }

    public int planets(int set, int most)
            throws IndexOutOfBoundsException, IllegalArgumentException {
        if (!isWithin(set, 0, sets.size() - 1)) {
            throw new IndexOutOfBoundsException("no such planet set");
        }
        if (!isWithin(most, 1, 12)) {
            throw new IllegalArgumentException("no such number of planets");
        }
        return sets.get(set).mostPlanets(most);
    }

    public int count(int what) throws IndexOutOfBoundsException {
        switch (what) {
            case 0:
                return shafts.size();
            case 1:
                return gears.size();
            case 2:
                return meshes.size();
            case 3:
                return sets.size();
            default:
                throw new IndexOutOfBoundsException("nothing of that kind is counted");
        }
    }

    // ---- what drives and holds

    public int drive(int shaft, int speed)
            throws IndexOutOfBoundsException, IllegalArgumentException {
        requireShaft(shaft);
        if (!isWithin(speed, -FASTEST, FASTEST)) {
            throw new IllegalArgumentException("no such speed of a driver");
        }
        int before = driver;
        driver = shaft;
        driverSpeed = speed;
        shafts.get(shaft).isHeld = false;
        tellSpeeds();
        return before;
    }

    public boolean hold(int shaft, boolean isHeld)
            throws IndexOutOfBoundsException, IllegalStateException {
        requireShaft(shaft);
        if (shaft == driver) {
            throw new IllegalStateException("the driver is not held");
        }
        Shaft held = shafts.get(shaft);
        boolean wasHeld = held.isHeld;
        held.isHeld = isHeld;
        tellSpeeds();
        return wasHeld;
    }

    // ---- speeds

    public boolean isTold(int shaft) throws IndexOutOfBoundsException {
        requireShaft(shaft);
        return shafts.get(shaft).hasSpeed();
    }

    public int speed(int shaft, boolean isDenominator)
            throws IndexOutOfBoundsException, IllegalStateException {
        requireShaft(shaft);
        requireSpeed(shaft);
        Fraction told = shafts.get(shaft).speed;
        return (int) (isDenominator ? told.denominator : told.numerator);
    }

    public int stage(int shaft) throws IndexOutOfBoundsException {
        requireShaft(shaft);
        return shafts.get(shaft).stage;
    }

    public double ratio(int a, int b) throws IndexOutOfBoundsException, IllegalStateException {
        requireShaft(a);
        requireShaft(b);
        requireSpeed(a);
        requireTurning(b);
        return shafts.get(a).speed.asDouble() / shafts.get(b).speed.asDouble();
    }

    public int broken(boolean arePlanets) {
        int those = 0;
        if (arePlanets) {
            for (int k = 0; k < sets.size(); k++) {
                those |= sets.get(k).tie.isBroken() ? 1 << k : 0;
            }
        } else {
            for (int k = 0; k < meshes.size(); k++) {
                those |= meshes.get(k).tie.isBroken() ? 1 << k : 0;
            }
        }
        return those;
    }

    public int free() {
        int untold = 0;
        for (int k = 0; k < shafts.size(); k++) {
            untold += shafts.get(k).hasSpeed() ? 0 : 1;
        }
        return untold;
    }

    public long torque(int shaft, int torque)
            throws IndexOutOfBoundsException, IllegalArgumentException, IllegalStateException {
        requireShaft(shaft);
        if (!isWithin(torque, 1, 10000)) {
            throw new IllegalArgumentException("no such torque");
        }
        if (driver == NO_SHAFT) {
            throw new IllegalStateException("there is no driver");
        }
        requireTurning(shaft);
        Shaft turned = shafts.get(shaft);
        long left = torque;
        for (int k = 0; k < turned.stage; k++) {
            left = left * 98 / 100;
        }
        return left * driverSpeed * turned.speed.denominator / turned.speed.numerator;
    }

    // ---- the plane

    public int distance(int mesh) throws IndexOutOfBoundsException {
        if (!isWithin(mesh, 0, meshes.size() - 1)) {
            throw new IndexOutOfBoundsException("no such mesh");
        }
        return meshes.get(mesh).length();
    }

    public int misfits() {
        int those = 0;
        for (int k = 0; k < meshes.size(); k++) {
            those |= meshes.get(k).fits() ? 0 : 1 << k;
        }
        return those;
    }

    public int collisions() {
        int pairs = 0;
        for (int a = 0; a < gears.size(); a++) {
            for (int b = a + 1; b < gears.size(); b++) {
                pairs += doCollide(gears.get(a), gears.get(b)) ? 1 : 0;
            }
        }
        return pairs;
    }

    public int suggest(int p, int q, int least, int greatest) throws IllegalArgumentException {
        if (!isWithin(p, 1, 10000) || !isWithin(q, 1, 10000)) {
            throw new IllegalArgumentException("no such ratio");
        }
        if (least < 8 || greatest < least || greatest > 120) {
            throw new IllegalArgumentException("no such range of teeth");
        }
        int bestA = least;
        int bestB = least;
        for (int b = least; b <= greatest; b++) {
            // With this b only the two numbers around b * p / q can be the nearest.
            int below = Math.max(least, Math.min(greatest, b * p / q));
            int above = Math.min(greatest, below + 1);
            for (int a = below; a <= above; a++) {
                if (isBetterPair(a, b, bestA, bestB, p, q)) {
                    bestA = a;
                    bestB = b;
                }
            }
        }
        return 1000 * bestA + bestB;
    }

    public long digest() {
        long d = mixed(263, shafts.size());
        for (int k = 0; k < shafts.size(); k++) {
            d = mixedShaft(d, shafts.get(k));
        }
        d = mixed(d, driver);
        d = mixed(d, gears.size());
        d = mixed(d, meshes.size());
        d = mixed(d, sets.size());
        d = mixed(d, broken(false));
        d = mixed(d, broken(true));
        return mixed(d, misfits());
    }

    // ---- what the calls ask for first

    private static boolean isWithin(int number, int least, int greatest) {
        return number >= least && number <= greatest;
    }

    private static void requirePlace(int x, int y) {
        if (!isWithin(x, -FARTHEST, FARTHEST) || !isWithin(y, -FARTHEST, FARTHEST)) {
            throw new IllegalArgumentException("no such place");
        }
    }

    private void requireShaft(int shaft) {
        if (!isWithin(shaft, 0, shafts.size() - 1)) {
            throw new IndexOutOfBoundsException("no such shaft");
        }
    }

    private void requireGear(int gear) {
        if (!isWithin(gear, 0, gears.size() - 1)) {
            throw new IndexOutOfBoundsException("no such gear");
        }
    }

    private void requireSpeed(int shaft) {
        if (!shafts.get(shaft).hasSpeed()) {
            throw new IllegalStateException("the speed is not told");
        }
    }

    private void requireTurning(int shaft) {
        requireSpeed(shaft);
        if (shafts.get(shaft).speed.numerator == 0) {
            throw new IllegalStateException("the shaft stands still");
        }
    }

    // ---- the telling of speeds

    /** Tells all speeds anew; due after each change of what ties, drives or holds shafts. */
    private void tellSpeeds() {
        for (int k = 0; k < shafts.size(); k++) {
            shafts.get(k).begin(k == driver, driverSpeed);
        }
        for (int k = 0; k < meshes.size(); k++) {
            meshes.get(k).tie.isAside = false;
        }
        for (int k = 0; k < sets.size(); k++) {
            sets.get(k).tie.isAside = false;
        }
        boolean isMore = true;
        for (int step = 0; isMore && step < MOST_STEPS; step++) {
            isMore = makeStep();
        }
    }

    /** Lets the first mesh that can tell a shaft do so, else the first such set. */
    private boolean makeStep() {
        for (int k = 0; k < meshes.size(); k++) {
            if (meshes.get(k).tie.tellsOrStepsAside()) {
                return true;
            }
        }
        for (int k = 0; k < sets.size(); k++) {
            if (sets.get(k).tie.tellsOrStepsAside()) {
                return true;
            }
        }
        return false;
    }

    // ---- pairs of gears, pairs of teeth, numbers

    private boolean areMeshed(Gear a, Gear b) {
        for (int k = 0; k < meshes.size(); k++) {
            if (meshes.get(k).isOf(a, b)) {
                return true;
            }
        }
        return false;
    }

    private boolean doCollide(Gear a, Gear b) {
        return a.overlaps(b) && !areMeshed(a, b);
    }

    private static boolean isBetterPair(int a, int b, int bestA, int bestB, int p, int q) {
        long off = (long) missOf(a, b, p, q) * bestB;
        long bestOff = (long) missOf(bestA, bestB, p, q) * b;
        if (off != bestOff) {
            return off < bestOff;
        }
        if (a + b != bestA + bestB) {
            return a + b < bestA + bestB;
        }
        return a < bestA;
    }

    /** How far a / b is from p / q, times b * q. */
    private static int missOf(int a, int b, int p, int q) {
        return Math.abs(a * q - b * p);
    }

    private static long mixed(long d, long x) {
        return d * 31 + x;
    }

    private static long mixedShaft(long before, Shaft shaft) {
        long d = mixed(before, shaft.x);
        d = mixed(d, shaft.y);
        d = mixed(d, shaft.isHeld ? 1 : 0);
        d = mixed(d, shaft.stage);
        if (shaft.hasSpeed()) {
            d = mixed(d, shaft.speed.numerator);
            d = mixed(d, shaft.speed.denominator);
        }
        return d;
    }

    /** A number in lowest terms, with a denominator greater than 0. */
    private static final class Fraction {
        long numerator;
        long denominator;

        Fraction() {
            numerator = 0;
            denominator = 1;
        }

        void become(long over, long under) {
            long common = commonDivisor(Math.abs(over), Math.abs(under));
            long signed = under < 0 ? -common : common;
            if (signed != 0) {
                numerator = over / signed;
                denominator = under / signed;
            }
        }

        boolean isSameAs(Fraction other) {
            return numerator == other.numerator && denominator == other.denominator;
        }

        boolean isTooGreat() {
            return Math.abs(numerator) > GREATEST_TOLD || denominator > GREATEST_TOLD;
        }

        double asDouble() {
            return (double) numerator / (double) denominator;
        }

        private static long commonDivisor(long a, long b) {
            long greater = a;
            long smaller = b;
            for (int k = 0; smaller != 0 && k < MOST_DIVISIONS; k++) {
                long rest = greater % smaller;
                greater = smaller;
                smaller = rest;
            }
            return greater;
        }
    }

    /** A shaft, where it stands, and what is told of its speed. */
    private static final class Shaft {
        int x;
        int y;
        boolean isHeld;
        int stage;
        final Fraction speed;

        Shaft(int x, int y) {
            this.x = x;
            this.y = y;
            isHeld = false;
            stage = NOT_TOLD;
            speed = new Fraction();
        }

        boolean hasSpeed() {
            return stage != NOT_TOLD;
        }

        int squareTo(int otherX, int otherY) {
            return (x - otherX) * (x - otherX) + (y - otherY) * (y - otherY);
        }

        void begin(boolean isDriver, int driverSpeed) {
            stage = isDriver || isHeld ? 0 : NOT_TOLD;
            speed.become(isDriver ? driverSpeed : 0, 1);
        }

        void learn(Fraction told, int newStage) {
            speed.become(told.numerator, told.denominator);
            stage = newStage;
        }
    }

    private static final class Gear {
        final Shaft shaft;
        final int teeth;
        final int module;
        final int layer;
        final boolean isRing;

        Gear(Shaft shaft, int teeth, int module, int layer, boolean isRing) {
            this.shaft = shaft;
            this.teeth = teeth;
            this.module = module;
            this.layer = layer;
            this.isRing = isRing;
        }

        /** Whether both can be meshed, whatever is meshed already. */
        boolean suits(Gear other) {
            if (shaft == other.shaft || layer != other.layer || module != other.module) {
                return false;
            }
            if (isRing) {
                return !other.isRing && teeth > other.teeth;
            }
            return !other.isRing || other.teeth > teeth;
        }

        boolean overlaps(Gear other) {
            if (shaft == other.shaft || layer != other.layer) {
                return false;
            }
            int reach = size() + other.size();
            return shaft.squareTo(other.shaft.x, other.shaft.y) < reach * reach;
        }

        private int size() {
            return module * (teeth + (isRing ? 6 : 2));
        }
    }

    private static final class Mesh {
        final Gear a;
        final Gear b;
        final Tie tie;

        Mesh(Gear a, Gear b) {
            this.a = a;
            this.b = b;
            // v * a + w * b = 0, but v * a - w * b = 0 with a ring.
            int weightOfB = a.isRing || b.isRing ? -b.teeth : b.teeth;
            tie = new Tie(new Term[] {new Term(a.shaft, a.teeth), new Term(b.shaft, weightOfB)});
        }

        boolean isOf(Gear one, Gear other) {
            return (a == one && b == other) || (a == other && b == one);
        }

        int length() {
            boolean hasRing = a.isRing || b.isRing;
            return a.module * (hasRing ? Math.abs(a.teeth - b.teeth) : a.teeth + b.teeth);
        }

        boolean fits() {
            int due = length();
            return a.shaft.squareTo(b.shaft.x, b.shaft.y) == due * due;
        }
    }

    private static final class PlanetSet {
        final int allTeeth;
        final Tie tie;

        PlanetSet(Shaft sun, Shaft ring, Shaft carrier, int s, int p) {
            int r = s + 2 * p;
            allTeeth = s + r;
            // (S - C) * s + (R - C) * r = 0 is S * s + R * r - C * (s + r) = 0.
            tie = new Tie(new Term[] {
                new Term(sun, s), new Term(ring, r), new Term(carrier, -allTeeth)
            });
        }

        int mostPlanets(int limit) {
            for (int number = limit; number > 1; number--) {
                if (allTeeth % number == 0) {
                    return number;
                }
            }
            return 1;
        }
    }

    /** A shaft in an equation, and what its speed is multiplied by there, which is never 0. */
    private static final class Term {
        final Shaft shaft;
        final int weight;

        Term(Shaft shaft, int weight) {
            this.shaft = shaft;
            this.weight = weight;
        }
    }

    /** An equation: the speeds of two or three shafts, each times its weight, add up to 0. */
    private static final class Tie {
        final Term[] terms;
        final Fraction asked;
        boolean isAside;

        Tie(Term[] terms) {
            this.terms = terms;
            asked = new Fraction();
            isAside = false;
        }

        /** Whether this could tell a shaft; if what it would tell is too great, it steps aside. */
        boolean tellsOrStepsAside() {
            Term unknown = isAside ? null : onlyUnknown();
            if (unknown == null) {
                return false;
            }
            ask(unknown);
            if (asked.isTooGreat()) {
                isAside = true;
            } else {
                unknown.shaft.learn(asked, 1 + greatestStage());
            }
            return true;
        }

        // One speed is solved for and compared: all three denominators multiplied with each
        // other could be greater than a long.
        boolean isBroken() {
            Term solved = null;
            for (Term term : terms) {
                if (!term.shaft.hasSpeed()) {
                    return false;
                }
                solved = term;
            }
            if (solved == null) {
                return false;
            }
            ask(solved);
            return !asked.isSameAs(solved.shaft.speed);
        }

        /** The only term whose shaft is not told, null if there are none or several. */
        private Term onlyUnknown() {
            Term unknown = null;
            for (Term term : terms) {
                if (!term.shaft.hasSpeed()) {
                    if (unknown != null) {
                        return null;
                    }
                    unknown = term;
                }
            }
            return unknown;
        }

        private int greatestStage() {
            int greatest = NOT_TOLD;
            for (Term term : terms) {
                greatest = Math.max(greatest, term.shaft.stage);
            }
            return greatest;
        }

        /** Works out what the other shafts ask of the one in this term. */
        private void ask(Term solved) {
            long over = 0;
            long under = 1;
            for (Term term : terms) {
                if (term != solved) {
                    Fraction known = term.shaft.speed;
                    over = over * known.denominator + term.weight * known.numerator * under;
                    under *= known.denominator;
                }
            }
            asked.become(-over, solved.weight * under);
        }
    }
}
