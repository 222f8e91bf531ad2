import java.math.BigInteger;
import java.util.ArrayList;
import java.util.List;

/**
 * The sentences of promises 19 to 23, and those of the terms on the plane, that name a boundary:
 * what fits and what just does not, what collides, the ranges of suggest, the wrap of the digest;
 * and the most calls that an object is used for.
 */
public final class PlaneEdgesTest {
    private static final int[] OUTER = {0, 0};
    private static final int[] FIRST_RING = {1, 0};
    private static final int[] SECOND_RING = {0, 1};

    public static void main(String[] args) {
        distanceMesh();
        distanceOuter();
        distanceRing();
        misfitsNone();
        misfitsSquare();
        misfitsLeast();
        misfitsGreatest();
        misfitsAll();
        collisionsNone();
        collisionsOuter();
        collisionsRing();
        collisionsSlanting();
        collisionsShaft();
        collisionsLayer();
        collisionsMesh();
        collisionsAll();
        suggestRatio();
        suggestLeast();
        suggestGreatest();
        suggestEnds();
        suggestSmallestSum();
        suggestBothSides();
        suggestAllPairs();
        digestEmpty();
        digestShaft();
        digestCounts();
        digestWraps();
        digestFull();
        lastCall();
        manyBenches();
        Check.end();
    }

    /** Gears on shafts 0 and 1, at (0, 0) and (x, y), meshed; with 1 for the one that is a ring. */
    private static GearTrains pairAt(int x, int y, int module, int a, int b, int[] rings) {
        GearTrains bench = apart(x, y, module, a, b, rings);
        bench.mesh(0, 1);
        return bench;
    }

    /** The same, not meshed. */
    private static GearTrains apart(int x, int y, int module, int a, int b, int[] rings) {
        GearTrains bench = new GearTrains();
        bench.addShaft(0, 0);
        bench.addShaft(x, y);
        bench.addGear(0, a, module, 2, rings[0] == 1);
        bench.addGear(1, b, module, 2, rings[1] == 1);
        return bench;
    }

    // ---- promise 19: distance

    private static void distanceMesh() {
        Check.says("Promise 19: Throws IndexOutOfBoundsException if there is no such mesh");
        Check.taken(() -> Benches.chain(4), 30, "the first", b -> b.distance(0));
        Check.taken(() -> Benches.chain(4), 30, "the last", b -> b.distance(2));
        Check.taken(Benches::full, 55, "the 16th", b -> b.distance(15));
        for (int mesh : Benches.outside(3)) {
            Check.refused(() -> Benches.chain(4), "IOB", "mesh " + mesh, b -> b.distance(mesh));
        }
        for (int mesh : Benches.outside(16)) {
            Check.refused(Benches::full, "IOB", "full, mesh " + mesh, b -> b.distance(mesh));
        }
        Check.refused(() -> Benches.withShafts(2), "IOB", "no meshes", b -> b.distance(0));
        GearTrains bench = Benches.chain(4);
        bench.unmesh();
        Check.refused(bench, "IOB", "the one taken away", () -> bench.distance(2));
        Check.same("the one before", bench.distance(1), 30);
    }

    private static void distanceOuter() {
        Check.says("The distance of a mesh is the module times the sum of the teeth");
        int[][] cases = {{1, 8, 8, 16}, {1, 8, 9, 17}, {10, 8, 8, 160}, {1, 200, 200, 400},
            {10, 199, 200, 3990}, {10, 200, 200, 4000}};
        for (int[] row : cases) {
            Check.taken(() -> pairAt(9, 9, row[0], row[1], row[2], OUTER), row[3],
                    row[1] + " and " + row[2], b -> b.distance(0));
            Check.taken(() -> pairAt(9, 9, row[0], row[2], row[1], OUTER), row[3],
                    row[2] + " and " + row[1], b -> b.distance(0));
        }
    }

    private static void distanceRing() {
        Check.says("The distance of a mesh is, with a ring, the module times their difference");
        int[][] cases = {{1, 9, 8, 1}, {10, 9, 8, 10}, {1, 200, 199, 1}, {1, 200, 8, 192},
            {10, 200, 8, 1920}};
        for (int[] row : cases) {
            Check.taken(() -> pairAt(9, 9, row[0], row[1], row[2], FIRST_RING), row[3],
                    "a ring of " + row[1] + ", " + row[2], b -> b.distance(0));
            Check.taken(() -> pairAt(9, 9, row[0], row[2], row[1], SECOND_RING), row[3],
                    row[2] + ", a ring of " + row[1], b -> b.distance(0));
        }
    }

    // ---- promise 20: misfits

    private static void misfitsNone() {
        Check.says("Promise 20: Returns the set of the meshes that do not fit: of none, none");
        Check.taken(() -> Benches.withShafts(2), 0, "no gears", b -> b.misfits());
        Check.taken(() -> apart(1, 1, 1, 8, 8, OUTER), 0, "no meshes", b -> b.misfits());
        Check.taken(() -> pairAt(16, 0, 1, 8, 8, OUTER), 0, "one that fits", b -> b.misfits());
    }

    private static void misfitsSquare() {
        Check.says("It fits if the square of the distance of both shafts is the square of this");
        int[][] fitting = {{20, 0}, {-20, 0}, {0, 20}, {0, -20}, {12, 16}, {-16, 12}};
        for (int[] at : fitting) {
            Check.taken(() -> pairAt(at[0], at[1], 1, 8, 12, OUTER), 0, "as it must be",
                    b -> b.misfits());
            Check.taken(() -> pairAt(at[0], at[1], 1, 28, 8, FIRST_RING), 0, "with a ring",
                    b -> b.misfits());
            Check.taken(() -> pairAt(at[0], at[1], 1, 8, 13, OUTER), 1, "too near",
                    b -> b.misfits());
            Check.taken(() -> pairAt(at[0], at[1], 1, 8, 11, OUTER), 1, "too far",
                    b -> b.misfits());
            Check.taken(() -> pairAt(at[0], at[1], 1, 28, 9, FIRST_RING), 1, "a ring too far",
                    b -> b.misfits());
            Check.taken(() -> pairAt(at[0], at[1], 1, 28, 28, OUTER), 1, "a ring's, but outer",
                    b -> b.misfits());
        }
        int[][] nearly = {{19, 0}, {21, 0}, {20, 1}, {20, -1}, {12, 15}, {12, 17}, {0, 0}};
        for (int[] at : nearly) {
            Check.taken(() -> pairAt(at[0], at[1], 1, 8, 12, OUTER), 1,
                    "at " + at[0] + ", " + at[1], b -> b.misfits());
        }
    }

    private static void misfitsLeast() {
        Check.says("It fits at the least distance, 1 half unit, and not on one place");
        int[][] fitting = {{1, 0}, {-1, 0}, {0, 1}, {0, -1}};
        for (int[] at : fitting) {
            Check.taken(() -> pairAt(at[0], at[1], 1, 9, 8, FIRST_RING), 0, "beside each other",
                    b -> b.misfits());
            Check.taken(() -> pairAt(at[0], at[1], 1, 8, 9, SECOND_RING), 0, "turned",
                    b -> b.misfits());
        }
        Check.taken(() -> pairAt(0, 0, 1, 9, 8, FIRST_RING), 1, "on one place", b -> b.misfits());
        Check.taken(() -> pairAt(1, 1, 1, 9, 8, FIRST_RING), 1, "slanting", b -> b.misfits());
    }

    private static void misfitsGreatest() {
        Check.says("It fits at great distances, too, and not beyond the farthest places");
        int[] teeth = {160, 161, 162};
        for (int more : teeth) {
            GearTrains bench = pairAt(900, 945, 10, 100, more, OUTER);
            bench.move(0, -900, -945);
            Check.same("100 and " + more + " at 2610", bench.misfits(), more == 161 ? 0 : 1);
        }
        GearTrains bench = pairAt(1000, 1000, 10, 200, 200, OUTER);
        bench.move(0, -1000, -1000);
        Check.same("4000 is farther than any two places", bench.misfits(), 1);
    }

    private static void misfitsAll() {
        Check.says("Promise 20: the set as the sum of the powers 2^k: all of 16, and each alone");
        GearTrains bench = Benches.allBroken();
        bench.move(0, 0, 0);
        bench.move(1, 0, 0);
        Check.same("all", bench.misfits(), 65535);
        bench.move(1, 40, 0);
        Check.same("none", bench.misfits(), 0);
        bench.move(1, 39, 0);
        for (int left = 15; left >= 0; left--) {
            bench.unmesh();
            Check.same(left + " are left", bench.misfits(), (1 << left) - 1);
        }
        for (int k = 0; k < 16; k++) {
            Check.same("mesh " + k + " alone", onlyMisfit(k), 1 << k);
        }
    }

    /** 16 meshes on two shafts and a third one: only this one is with the third, which is off. */
    private static int onlyMisfit(int mesh) {
        GearTrains bench = new GearTrains();
        bench.addShaft(0, 0);
        bench.addShaft(40, 0);
        bench.addShaft(41, 0);
        for (int k = 0; k < 9; k++) {
            bench.addGear(k == 8 ? 2 : k % 2, 20, 1, 0, false);
        }
        for (int k = 0; k < 16; k++) {
            bench.mesh(k / 4 * 2, k == mesh ? 8 : k % 4 * 2 + 1);
        }
        return bench.misfits();
    }

    // ---- promise 21: collisions

    private static void collisionsNone() {
        Check.says("Promise 21: Returns the number of pairs of gears that collide: of none, none");
        Check.taken(() -> Benches.withShafts(10), 0, "no gears", b -> b.collisions());
        Check.taken(() -> withGear(), 0, "one gear", b -> b.collisions());
        Check.taken(() -> apart(1, 0, 1, 8, 8, OUTER), 1, "two", b -> b.collisions());
    }

    private static GearTrains withGear() {
        GearTrains bench = Benches.withShafts(2);
        bench.addGear(0, 200, 10, 0, true);
        return bench;
    }

    /** These two collide if they are less than so much apart, and else do not. */
    private static void reach(int module, int a, int b, int[] rings, int due) {
        int[][] ways = {{1, 0}, {-1, 0}, {0, 1}, {0, -1}};
        for (int[] way : ways) {
            for (int off = -1; off <= 1; off++) {
                int at = due + off;
                String what = a + " and " + b + " of module " + module + " at " + at;
                Check.taken(() -> apart(at * way[0], at * way[1], module, a, b, rings),
                        off < 0 ? 1 : 0, what, bench -> bench.collisions());
            }
        }
    }

    private static void collisionsOuter() {
        Check.says("They collide if the square of the distance of their shafts is less than the "
                + "square of the sum of their sizes: the module times the teeth and 2");
        reach(1, 8, 8, OUTER, 20);
        reach(1, 8, 200, OUTER, 212);
        reach(1, 200, 200, OUTER, 404);
        reach(2, 200, 200, OUTER, 808);
        reach(10, 8, 8, OUTER, 200);
        reach(10, 40, 55, OUTER, 990);
        GearTrains bench = apart(1000, 1000, 10, 200, 200, OUTER);
        bench.move(0, -1000, -1000);
        Check.same("the greatest reach across all", bench.collisions(), 1);
    }

    private static void collisionsRing() {
        Check.says("The size of a ring is its module times the teeth and 6");
        reach(1, 8, 8, FIRST_RING, 24);
        reach(1, 8, 8, SECOND_RING, 24);
        reach(1, 8, 8, new int[] {1, 1}, 28);
        reach(1, 200, 8, FIRST_RING, 216);
        reach(1, 8, 200, SECOND_RING, 216);
        reach(1, 200, 200, new int[] {1, 1}, 412);
        reach(10, 8, 8, new int[] {1, 1}, 280);
        Check.says("The size counts the gear's own module");
        int[] places = {101, 102, 103};
        for (int at : places) {
            GearTrains bench = new GearTrains();
            bench.addShaft(0, 0);
            bench.addShaft(at, 0);
            bench.addGear(0, 8, 1, 0, false);
            bench.addGear(1, 17, 4, 0, true);
            Check.same("10 and 92 at " + at, bench.collisions(), at < 102 ? 1 : 0);
        }
    }

    private static void collisionsSlanting() {
        Check.says("They collide by the square of the distance, in any direction");
        int[][] places = {{12, 16, 0}, {-16, -12, 0}, {12, 15, 1}, {11, 16, 1}, {20, 0, 0},
            {20, 1, 0}, {14, 14, 1}, {14, 15, 0}, {0, 0, 1}};
        for (int[] at : places) {
            Check.taken(() -> apart(at[0], at[1], 1, 8, 8, OUTER), at[2],
                    "20 at " + at[0] + ", " + at[1], b -> b.collisions());
        }
    }

    private static void collisionsShaft() {
        Check.says("Two gears on different shafts collide");
        GearTrains bench = Benches.withShafts(2);
        bench.move(1, 0, 0);
        for (int k = 0; k < 8; k++) {
            bench.addGear(0, 20, 1, 0, k % 2 == 0);
            Check.same("not on the same one", bench.collisions(), 0);
        }
        bench.addGear(1, 20, 1, 0, false);
        Check.same("on another one at the same place", bench.collisions(), 8);
    }

    private static void collisionsLayer() {
        Check.says("Two gears in the same layer collide");
        for (int layer = 0; layer <= 5; layer++) {
            for (int other = 0; other <= 5; other++) {
                GearTrains bench = Benches.withShafts(2);
                bench.move(1, 0, 0);
                bench.addGear(0, 200, 10, layer, true);
                bench.addGear(1, 200, 10, other, false);
                Check.same("layers " + layer + " and " + other, bench.collisions(),
                        layer == other ? 1 : 0);
            }
        }
    }

    private static void collisionsMesh() {
        Check.says("They collide, if they are not of the same mesh");
        GearTrains bench = Benches.withShafts(3);
        for (int k = 0; k < 3; k++) {
            bench.move(k, 0, 0);
            bench.addGear(k, 20, 1, 0, false);
        }
        Check.same("none meshed", bench.collisions(), 3);
        bench.mesh(1, 0);
        Check.same("two of a mesh", bench.collisions(), 2);
        bench.mesh(1, 2);
        Check.same("each of a mesh, but 0 and 2 not of the same", bench.collisions(), 1);
        bench.mesh(2, 0);
        Check.same("all pairs", bench.collisions(), 0);
        bench.unmesh();
        Check.same("one taken away", bench.collisions(), 1);
        bench.addGear(0, 20, 1, 0, false);
        Check.same("shafts that are tied, but another gear", bench.collisions(), 3);
        bench.unmesh();
        bench.unmesh();
        Check.same("all taken away", bench.collisions(), 5);
    }

    private static void collisionsAll() {
        Check.says("Promise 21: the number of pairs: as many as there can be");
        GearTrains bench = new GearTrains();
        for (int k = 0; k < 10; k++) {
            bench.addShaft(0, 0);
        }
        for (int k = 0; k < 16; k++) {
            bench.addGear(k % 10, 200, 10, 0, false);
        }
        Check.same("16 gears, 6 pairs on the same shaft", bench.collisions(), 114);
        for (int k = 0; k < 16; k++) {
            bench.mesh(k, (k + 1) % 16);
            Check.same(k + 1 + " of them meshed", bench.collisions(), 113 - k);
        }
    }

    // ---- promise 22: suggest

    private static void suggestRatio() {
        Check.says("Promise 22: Throws IllegalArgumentException if p or q is not 1 to 10000");
        int[][] last = {{1, 1, 8008}, {1, 10000, 8120}, {10000, 1, 120008}, {10000, 10000, 8008},
            {9999, 10000, 8008}, {10000, 9999, 8008}, {1, 9999, 8120}, {9999, 1, 120008},
            {2, 1, 16008}, {1, 2, 8016}};
        for (int[] row : last) {
            Check.taken(GearTrains::new, row[2], row[0] + " / " + row[1],
                    b -> b.suggest(row[0], row[1], 8, 120));
        }
        for (int wrong : Benches.beyond(1, 10000)) {
            Check.refused(Benches::full, "IAE", "p " + wrong, b -> b.suggest(wrong, 1, 8, 120));
            Check.refused(Benches::full, "IAE", "q " + wrong, b -> b.suggest(1, wrong, 8, 120));
            Check.refused(Benches::full, "IAE", "both " + wrong,
                    b -> b.suggest(wrong, wrong, 8, 120));
        }
        Check.refused(GearTrains::new, "IAE", "p -1", b -> b.suggest(-1, 1, 8, 120));
        Check.refused(GearTrains::new, "IAE", "q -1", b -> b.suggest(1, -1, 8, 120));
        Check.refused(GearTrains::new, "IAE", "both -1", b -> b.suggest(-1, -1, 8, 120));
    }

    private static void suggestLeast() {
        Check.says("Promise 22: Throws IllegalArgumentException if least is less than 8");
        Check.taken(GearTrains::new, 8008, "8", b -> b.suggest(1, 1, 8, 20));
        Check.taken(GearTrains::new, 9009, "9", b -> b.suggest(1, 1, 9, 20));
        Check.taken(GearTrains::new, 8008, "8 alone", b -> b.suggest(1, 1, 8, 8));
        for (int wrong : new int[] {7, 0, -8, Benches.MIN}) {
            Check.refused(GearTrains::new, "IAE", "least " + wrong,
                    b -> b.suggest(1, 1, wrong, 20));
            Check.refused(GearTrains::new, "IAE", "both " + wrong,
                    b -> b.suggest(1, 1, wrong, wrong));
        }
    }

    private static void suggestGreatest() {
        Check.says("Promise 22: Throws IllegalArgumentException if greatest is less than least or "
                + "greater than 120");
        Check.taken(GearTrains::new, 120060, "120", b -> b.suggest(2, 1, 60, 120));
        Check.taken(GearTrains::new, 118059, "119", b -> b.suggest(2, 1, 59, 119));
        Check.taken(GearTrains::new, 120120, "120 alone", b -> b.suggest(2, 1, 120, 120));
        Check.taken(GearTrains::new, 50050, "as much as least", b -> b.suggest(2, 1, 50, 50));
        Check.taken(GearTrains::new, 51050, "one more", b -> b.suggest(2, 1, 50, 51));
        Check.refused(GearTrains::new, "IAE", "one less", b -> b.suggest(2, 1, 50, 49));
        Check.refused(GearTrains::new, "IAE", "less at 8", b -> b.suggest(2, 1, 8, 7));
        Check.refused(GearTrains::new, "IAE", "less at 120", b -> b.suggest(2, 1, 120, 119));
        for (int wrong : new int[] {121, 1000, Benches.MAX}) {
            Check.refused(GearTrains::new, "IAE", "greatest " + wrong,
                    b -> b.suggest(2, 1, 8, wrong));
            Check.refused(GearTrains::new, "IAE", "both " + wrong,
                    b -> b.suggest(2, 1, wrong, wrong));
        }
        Check.refused(GearTrains::new, "IAE", "the farthest",
                b -> b.suggest(2, 1, Benches.MAX, Benches.MIN));
        Check.refused(GearTrains::new, "IAE", "the whole range",
                b -> b.suggest(2, 1, Benches.MIN, Benches.MAX));
    }

    private static void suggestEnds() {
        Check.says("Promise 22: each from the least to the greatest number");
        for (int least = 8; least <= 120; least += 7) {
            int number = least;
            int greatest = Math.min(120, least + 13);
            Check.taken(GearTrains::new, 1000 * greatest + number, "the greatest ratio",
                    b -> b.suggest(10000, 1, number, greatest));
            Check.taken(GearTrains::new, 1000 * number + greatest, "the smallest ratio",
                    b -> b.suggest(1, 10000, number, greatest));
            Check.taken(GearTrains::new, 1001 * number, "1, with the smallest sum",
                    b -> b.suggest(77, 77, number, greatest));
            Check.taken(GearTrains::new, 1001 * number, "one number alone",
                    b -> b.suggest(3, 5, number, number));
        }
    }

    private static void suggestSmallestSum() {
        Check.says("Promise 22: of several the one with the smallest sum: of the same ratio");
        Check.taken(GearTrains::new, 16008, "2", b -> b.suggest(2, 1, 8, 120));
        Check.taken(GearTrains::new, 120008, "15", b -> b.suggest(15, 1, 8, 120));
        Check.taken(GearTrains::new, 15010, "3 / 2", b -> b.suggest(3, 2, 10, 120));
        Check.taken(GearTrains::new, 12008, "3 / 2 from 8", b -> b.suggest(3, 2, 8, 120));
        Check.taken(GearTrains::new, 10015, "2 / 3", b -> b.suggest(2, 3, 10, 120));
        Check.taken(GearTrains::new, 16012, "40 / 30", b -> b.suggest(40, 30, 11, 120));
        Check.taken(GearTrains::new, 119120, "119 / 120", b -> b.suggest(119, 120, 8, 120));
    }

    private static void suggestBothSides() {
        Check.says("Promise 22: of several the one with the smallest sum: one below, one above");
        Check.taken(GearTrains::new, 8119, "8 / 119, not 8 / 120",
                b -> b.suggest(239, 3570, 8, 120));
        Check.taken(GearTrains::new, 8107, "8 / 107, not 9 / 120",
                b -> b.suggest(641, 8560, 8, 120));
        Check.taken(GearTrains::new, 105008, "105 / 8, not 118 / 9",
                b -> b.suggest(1889, 144, 8, 120));
        Check.taken(GearTrains::new, 117008, "117 / 8, not 118 / 8",
                b -> b.suggest(235, 16, 8, 120));
        Check.taken(GearTrains::new, 119008, "119 / 8, not 120 / 8",
                b -> b.suggest(239, 16, 8, 120));
        Check.taken(GearTrains::new, 118008, "nearer than 119 / 8",
                b -> b.suggest(236, 16, 8, 120));
    }

    // That two nearest pairs have the same sum can't be: a / b' lies between a / b and a' / b'. So
    // "then the one with the smallest a" decides nothing; the model keeps to it all the same.
    private static void suggestAllPairs() {
        Check.says("Promise 22: for which a / b is nearest to p / q: all pairs looked at");
        int[] ratios = {1, 2, 3, 7, 8, 15, 113, 119, 120, 121, 355, 5000, 6667, 9999, 10000};
        int[][] ranges = {{8, 120}, {8, 9}, {8, 10}, {119, 120}, {60, 90}};
        for (int[] range : ranges) {
            GearTrains bench = new GearTrains();
            Model model = new Model();
            for (int p : ratios) {
                for (int q : ratios) {
                    Check.same(p + " / " + q + " from " + range[0] + " to " + range[1],
                            bench.suggest(p, q, range[0], range[1]),
                            model.suggest(p, q, range[0], range[1]));
                }
            }
        }
    }

    // ---- promise 23: digest

    /** d with whole numbers of any length, before it wraps around. */
    private static BigInteger unwrapped(long... numbers) {
        BigInteger d = BigInteger.valueOf(263);
        for (long x : numbers) {
            d = d.multiply(BigInteger.valueOf(31)).add(BigInteger.valueOf(x));
        }
        return d;
    }

    private static void digestEmpty() {
        Check.says("Promise 23: of a bench without shafts; the driver, -1 if there is none");
        BigInteger due = unwrapped(0, -1, 0, 0, 0, 0, 0, 0);
        Check.same("it does not wrap yet", due.bitLength() < 64, true);
        Check.same("the numbers of nothing", new GearTrains().digest(), due.longValueExact());
    }

    private static void digestShaft() {
        Check.says("Promise 23: its x and y, 1 if it is held, else 0, its stage, and, if it is "
                + "told, the numerator and the denominator of its speed");
        GearTrains bench = new GearTrains();
        bench.addShaft(-1000, 999);
        Check.same("free", bench.digest(), unwrapped(1, -1000, 999, 0, -1,
                -1, 0, 0, 0, 0, 0, 0).longValue());
        bench.hold(0, true);
        Check.same("held", bench.digest(), unwrapped(1, -1000, 999, 1, 0, 0, 1,
                -1, 0, 0, 0, 0, 0, 0).longValue());
        bench.drive(0, -1000);
        Check.same("driven", bench.digest(), unwrapped(1, -1000, 999, 0, 0, -1000, 1,
                0, 0, 0, 0, 0, 0, 0).longValue());
        bench.drive(0, 0);
        Check.same("driven with 0", bench.digest(), unwrapped(1, -1000, 999, 0, 0, 0, 1,
                0, 0, 0, 0, 0, 0, 0).longValue());
        bench.move(0, 1000, -1000);
        Check.same("moved", bench.digest(), unwrapped(1, 1000, -1000, 0, 0, 0, 1,
                0, 0, 0, 0, 0, 0, 0).longValue());
    }

    private static void digestCounts() {
        Check.says("Promise 23: the number of gears, of meshes and of planet sets; the sets of "
                + "broken meshes and of broken planet sets; the set of the meshes that do not fit");
        GearTrains bench = Benches.allBroken();
        long[] shafts = {3, 0, 0, 0, 0, 1, 1, 100, 0, 1, 0, 0, 1, 200, 0, 1, 0, 0, 1, 0};
        long before = Benches.mix(shafts);
        Check.same("all broken, none fits", bench.digest(),
                more(before, 8, 16, 4, 65535, 15, 65535));
        bench.move(1, 40, 0);
        bench.move(1, 100, 0);
        Check.same("the same again", bench.digest(), more(before, 8, 16, 4, 65535, 15, 65535));
        bench.unmesh();
        bench.addGear(2, 8, 1, 5, false);
        Check.same("one less, one more", bench.digest(),
                more(before, 9, 15, 4, 32767, 15, 32767));
    }

    private static long more(long before, long... numbers) {
        long d = before;
        for (long x : numbers) {
            d = d * 31 + x;
        }
        return d;
    }

    private static void digestWraps() {
        Check.says("Promise 23: d becomes d * 31 + x, which wraps around as a 64-bit integer");
        for (int shafts = 1; shafts <= 10; shafts++) {
            List<Long> numbers = new ArrayList<>();
            numbers.add((long) shafts);
            for (int k = 0; k < shafts; k++) {
                add(numbers, 100L * k, 0, 0, -1);
            }
            add(numbers, -1, 0, 0, 0, 0, 0, 0);
            BigInteger due = unwrapped(numbers.stream().mapToLong(Long::longValue).toArray());
            Check.same("it wraps with " + shafts, due.bitLength() > 63, true);
            Check.same(shafts + " shafts", Benches.withShafts(shafts).digest(), due.longValue());
        }
    }

    private static void add(List<Long> numbers, long... more) {
        for (long x : more) {
            numbers.add(x);
        }
    }

    private static void digestFull() {
        Check.says("Promise 23: of the full bench: all that the other questions answer");
        GearTrains bench = Benches.full();
        List<Long> numbers = new ArrayList<>();
        numbers.add((long) bench.count(0));
        for (int k = 0; k < 10; k++) {
            add(numbers, 100L * k, 0, k == 9 ? 1 : 0, bench.stage(k));
            if (bench.isTold(k)) {
                add(numbers, bench.speed(k, false), bench.speed(k, true));
            }
        }
        add(numbers, 0, bench.count(1), bench.count(2), bench.count(3));
        add(numbers, bench.broken(false), bench.broken(true), bench.misfits());
        long due = unwrapped(numbers.stream().mapToLong(Long::longValue).toArray()).longValue();
        Check.same("once", bench.digest(), due);
        Check.same("twice", bench.digest(), due);
    }

    // ---- the most calls

    private static void lastCall() {
        Check.says("An object is used for at most 512 calls: the last ones are right, too");
        GearTrains bench = Benches.row();
        // 29 calls so far.
        bench.drive(0, 3);
        for (int k = 0; k < 120; k++) {
            bench.unmesh();
            bench.mesh(9, 8);
            bench.hold(5, k % 2 == 0);
            bench.move(7, k, k);
        }
        Check.same("call 511", bench.digest(), sameInFewCalls().digest());
        Check.same("call 512", bench.stage(9), 9);
        GearTrains refusing = Benches.row();
        for (int k = 29; k < 511; k++) {
            Check.same("refused", Check.outcome(() -> refusing.mesh(0, 1)), "IAE");
        }
        Check.same("the last call", refusing.digest(), Benches.row().digest());
    }

    private static GearTrains sameInFewCalls() {
        GearTrains bench = Benches.row();
        bench.drive(0, 3);
        bench.move(7, 119, 119);
        return bench;
    }

    private static void manyBenches() {
        Check.says("Each object is a bench of its own");
        List<GearTrains> benches = new ArrayList<>();
        for (int k = 0; k < 200; k++) {
            GearTrains bench = Benches.row();
            bench.drive(k % 10, k);
            benches.add(bench);
        }
        for (int k = 0; k < 200; k++) {
            Check.same("bench " + k, benches.get(k).drive(0, 0), k % 10);
        }
    }
}
