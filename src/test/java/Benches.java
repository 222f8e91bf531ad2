/** Benches that tests look at, and what is often asked of them. */
final class Benches {
    static final int MIN = Integer.MIN_VALUE;
    static final int MAX = Integer.MAX_VALUE;

    private Benches() {
    }

    static GearTrains withShafts(int number) {
        GearTrains bench = new GearTrains();
        for (int k = 0; k < number; k++) {
            bench.addShaft(100 * k, 0);
        }
        return bench;
    }

    /** Shafts in a row, two gears on each: mesh k ties shaft k to shaft k + 1, 10 to 20 teeth. */
    static GearTrains chain(int shafts) {
        GearTrains bench = withShafts(shafts);
        for (int k = 0; k + 1 < shafts; k++) {
            pair(bench, k, 10, k + 1, 20, k % 6);
        }
        return bench;
    }

    /** The same; shaft 0 drives. */
    static GearTrains drivenChain(int shafts) {
        GearTrains bench = chain(shafts);
        bench.drive(0, 8);
        return bench;
    }

    /** Two new outer gears of module 1, meshed. */
    static int pair(GearTrains bench, int a, int teeth, int b, int others, int layer) {
        int first = bench.addGear(a, teeth, 1, layer, false);
        int second = bench.addGear(b, others, 1, layer, false);
        return bench.mesh(first, second);
    }

    /**
     * Ten shafts, and mesh k from shaft k to shaft k + 1, with the teeth of one at 2 * k and of the
     * other at 2 * k + 1; shaft 0 drives.
     */
    static GearTrains train(int speed, int... teeth) {
        GearTrains bench = withShafts(10);
        for (int k = 0; 2 * k + 1 < teeth.length; k++) {
            pair(bench, k, teeth[2 * k], k + 1, teeth[2 * k + 1], k % 6);
        }
        bench.drive(0, speed);
        return bench;
    }

    /** Ten shafts with a gear of 20 teeth on each, each meshed with the next one; none drives. */
    static GearTrains row() {
        GearTrains bench = withShafts(10);
        for (int k = 0; k < 10; k++) {
            bench.addGear(k, 20, 1, 0, false);
        }
        for (int k = 0; k + 1 < 10; k++) {
            bench.mesh(k, k + 1);
        }
        return bench;
    }

    /** The same; this shaft drives, with the speed 0. */
    static GearTrains drivenRow(int shaft) {
        GearTrains bench = row();
        bench.drive(shaft, 0);
        return bench;
    }

    /**
     * As many shafts, gears, meshes and planet sets as there may be; shaft 0 drives, shaft 9 is
     * held. Gear k sits on shaft k % 10 and is meshed with gear k + 1, the last one with gear 0.
     */
    static GearTrains full() {
        GearTrains bench = withShafts(10);
        for (int k = 0; k < 16; k++) {
            bench.addGear(k % 10, 20 + k, 1, 0, false);
        }
        for (int k = 0; k < 16; k++) {
            bench.mesh(k, (k + 1) % 16);
        }
        for (int k = 0; k < 4; k++) {
            bench.addPlanets(k, k + 2, k + 5, 8 + k, 100 - k);
        }
        bench.drive(0, 7);
        bench.hold(9, true);
        return bench;
    }

    /** Two shafts, and all pairs of gears that mesh: four on each, driven against a held one. */
    static GearTrains allBroken() {
        GearTrains bench = withShafts(3);
        for (int k = 0; k < 8; k++) {
            bench.addGear(k % 2, 20, 1, 0, false);
        }
        for (int k = 0; k < 16; k++) {
            bench.mesh(k / 4 * 2, k % 4 * 2 + 1);
        }
        for (int k = 0; k < 4; k++) {
            bench.addPlanets(0, 1, 2, 20, 20);
        }
        bench.drive(0, 1);
        bench.hold(1, true);
        bench.hold(2, true);
        return bench;
    }

    /** Numbers next to those from 0 to one less than the count, and the farthest from them. */
    static int[] outside(int count) {
        return new int[] {-1, count, MIN, MAX};
    }

    /** Numbers next to those from the least to the greatest one, and the farthest from them. */
    static int[] beyond(int least, int greatest) {
        return new int[] {least - 1, greatest + 1, MIN, MAX};
    }

    static String speedOf(GearTrains bench, int shaft) {
        return bench.speed(shaft, false) + "/" + bench.speed(shaft, true);
    }

    /** The same; "free" if it is not told. */
    static String toldIn(GearTrains bench, int shaft) {
        return bench.isTold(shaft) ? speedOf(bench, shaft) : "free";
    }

    /** What is told of a shaft in a train. */
    static String told(int shaft, int speed, int... teeth) {
        return toldIn(train(speed, teeth), shaft);
    }

    static long mix(long... numbers) {
        long d = 263;
        for (long x : numbers) {
            d = d * 31 + x;
        }
        return d;
    }
}
