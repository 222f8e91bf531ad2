/**
 * The sentences of promises 10 to 18 that name a boundary: what drives and holds, what is asked of
 * speeds, and which exception comes first.
 */
public final class SpeedEdgesTest {
    public static void main(String[] args) {
        driveShaft();
        driveSpeed();
        driveOrder();
        driveInPlace();
        driveHeld();
        holdShaft();
        holdDriver();
        heldSpeed();
        toldShaft();
        untoldBench();
        speedShaft();
        speedNotTold();
        stageShaft();
        stageEnds();
        stageOfSet();
        ratioShafts();
        ratioNotTold();
        ratioByZero();
        ratioOrder();
        ratioQuotient();
        brokenNone();
        brokenAll();
        brokenNotTold();
        brokenByOne();
        freeEnds();
        torqueShaft();
        torqueNumber();
        torqueNoDriver();
        torqueNotTold();
        torqueZero();
        torqueOrder();
        torqueAtDriver();
        torqueCutByStage();
        torqueCutTowardsZero();
        torqueGreatest();
        Check.end();
    }

    // ---- promise 10: drive

    private static void driveShaft() {
        Check.says("Promise 10: Throws IndexOutOfBoundsException if there is no such shaft");
        Check.taken(Benches::row, -1, "the first", b -> b.drive(0, 5));
        Check.taken(Benches::row, -1, "the last", b -> b.drive(9, 5));
        Check.taken(Benches::full, 0, "another one", b -> b.drive(9, 5));
        for (int shaft : Benches.outside(10)) {
            Check.refused(Benches::row, "IOB", "shaft " + shaft, b -> b.drive(shaft, 5));
            Check.refused(Benches::full, "IOB", "when full, " + shaft, b -> b.drive(shaft, 5));
        }
        Check.refused(() -> Benches.withShafts(1), "IOB", "a second", b -> b.drive(1, 5));
    }

    private static void driveSpeed() {
        Check.says("Promise 10: Throws IllegalArgumentException if speed is not -1000 to 1000");
        int[] last = {-1000, -999, 0, 999, 1000};
        for (int speed : last) {
            GearTrains bench = Benches.withShafts(1);
            Check.same("no driver before", bench.drive(0, speed), -1);
            Check.same("its speed", Benches.speedOf(bench, 0), speed + "/1");
        }
        for (int speed : Benches.beyond(-1000, 1000)) {
            Check.refused(Benches::row, "IAE", "none drove, " + speed, b -> b.drive(3, speed));
            Check.refused(Benches::full, "IAE", "the driver, " + speed, b -> b.drive(0, speed));
            Check.refused(Benches::full, "IAE", "a free one, " + speed, b -> b.drive(4, speed));
            Check.refused(Benches::full, "IAE", "the held one, " + speed, b -> b.drive(9, speed));
        }
    }

    private static void driveOrder() {
        Check.says("Promise 10: the exception named first: no shaft before a wrong speed");
        for (int shaft : Benches.outside(10)) {
            for (int speed : Benches.beyond(-1000, 1000)) {
                Check.refused(Benches::row, "IOB", shaft + " with " + speed,
                        b -> b.drive(shaft, speed));
            }
        }
    }

    private static void driveInPlace() {
        Check.says("Promise 10: in the place of another one. Returns the number of the driver "
                + "before, -1 if there was none");
        GearTrains bench = Benches.withShafts(3);
        Check.same("none before", bench.drive(2, 9), -1);
        Check.same("the last before", bench.drive(0, 9), 2);
        Check.same("which is free now", bench.isTold(2), false);
        Check.same("the first before", bench.drive(0, -9), 0);
        Check.same("with another speed", Benches.speedOf(bench, 0), "-9/1");
        Check.same("two are free", bench.free(), 2);
        Check.same("the driver before can be held", bench.hold(2, true), false);
    }

    private static void driveHeld() {
        Check.says("A driver is not held; made the driver, it is not held any more");
        GearTrains bench = Benches.withShafts(2);
        bench.hold(1, true);
        bench.drive(1, 4);
        Check.same("it turns", Benches.speedOf(bench, 1), "4/1");
        Check.same("it is not held", bench.digest(), Benches.mix(2, 0, 0, 0, -1,
                100, 0, 0, 0, 4, 1, 1, 0, 0, 0, 0, 0, 0));
        bench.drive(0, 4);
        Check.same("nor afterwards", bench.isTold(1), false);
        Check.same("so says hold", bench.hold(1, false), false);
        bench.hold(1, true);
        bench.drive(0, 5);
        Check.same("another one stays held", bench.hold(1, true), true);
    }

    // ---- promise 11: hold

    private static void holdShaft() {
        Check.says("Promise 11: Throws IndexOutOfBoundsException if there is no such shaft");
        Check.taken(Benches::row, false, "the first", b -> b.hold(0, true));
        Check.taken(Benches::row, false, "the last", b -> b.hold(9, true));
        for (int shaft : Benches.outside(10)) {
            // -1 is what stands for no driver, and no shaft either.
            Check.refused(Benches::row, "IOB", "none drives, " + shaft, b -> b.hold(shaft, true));
            Check.refused(Benches::row, "IOB", "to let go, " + shaft, b -> b.hold(shaft, false));
            Check.refused(Benches::full, "IOB", "one drives, " + shaft, b -> b.hold(shaft, true));
        }
        Check.refused(GearTrains::new, "IOB", "no shaft, no driver", b -> b.hold(-1, false));
        Check.refused(() -> Benches.withShafts(1), "IOB", "a second", b -> b.hold(1, true));
    }

    private static void holdDriver() {
        Check.says("Promise 11: Throws IllegalStateException if it is the driver");
        for (int driver : new int[] {0, 5, 9}) {
            Check.Make bench = () -> Benches.drivenRow(driver);
            Check.refused(bench, "ISE", "hold " + driver, b -> b.hold(driver, true));
            Check.refused(bench, "ISE", "let go " + driver, b -> b.hold(driver, false));
            Check.taken(bench, false, "the one beside " + driver, b -> b.hold(driver ^ 1, true));
        }
        GearTrains bench = Benches.drivenRow(5);
        bench.drive(4, 1);
        Check.same("the driver before", bench.hold(5, true), false);
        Check.refused(bench, "ISE", "the driver now", () -> bench.hold(4, true));
    }

    private static void heldSpeed() {
        Check.says("A shaft can be held (its speed is 0 then). Returns whether it was held before");
        GearTrains bench = Benches.withShafts(2);
        Check.same("not before", bench.hold(1, true), false);
        Check.same("its speed", Benches.speedOf(bench, 1), "0/1");
        Check.same("its stage", bench.stage(1), 0);
        Check.same("held before, and held again", bench.hold(1, true), true);
        Check.same("still 0", Benches.speedOf(bench, 1), "0/1");
        Check.same("held before, and let go", bench.hold(1, false), true);
        Check.same("free", bench.isTold(1), false);
        Check.same("let go again", bench.hold(1, false), false);
        Check.same("still free", bench.isTold(1), false);
        Check.same("the other one was not held", bench.hold(0, false), false);
        GearTrains all = Benches.row();
        for (int k = 0; k < 10; k++) {
            Check.same("all can be held", all.hold(k, true), false);
        }
        Check.same("none is free", all.free(), 0);
        Check.same("none is broken", all.broken(false), 0);
    }

    // ---- promises 12 and 13: isTold and speed

    private static void toldShaft() {
        Check.says("Promise 12: Throws IndexOutOfBoundsException if there is no such shaft");
        Check.taken(() -> Benches.drivenRow(4), true, "the first", b -> b.isTold(0));
        Check.taken(() -> Benches.drivenRow(4), true, "the last", b -> b.isTold(9));
        for (int shaft : Benches.outside(10)) {
            Check.refused(() -> Benches.drivenRow(4), "IOB", "shaft " + shaft,
                    b -> b.isTold(shaft));
        }
        Check.refused(() -> Benches.withShafts(3), "IOB", "a 4th", b -> b.isTold(3));
    }

    private static void untoldBench() {
        Check.says("What is not told then is free: without a driver and a held one, all are");
        for (int k = 0; k < 10; k++) {
            int shaft = k;
            Check.taken(Benches::row, false, "isTold " + k, b -> b.isTold(shaft));
            Check.taken(Benches::row, -1, "stage " + k, b -> b.stage(shaft));
            Check.refused(Benches::row, "ISE", "speed " + k, b -> b.speed(shaft, false));
        }
        Check.taken(Benches::row, 10, "free", b -> b.free());
    }

    private static void speedShaft() {
        Check.says("Promise 13: Throws IndexOutOfBoundsException if there is no such shaft");
        Check.taken(() -> Benches.drivenRow(4), 0, "the first", b -> b.speed(0, false));
        Check.taken(() -> Benches.drivenRow(4), 1, "the last", b -> b.speed(9, true));
        for (int shaft : Benches.outside(10)) {
            Check.refused(() -> Benches.drivenRow(4), "IOB", "over " + shaft,
                    b -> b.speed(shaft, false));
            Check.refused(() -> Benches.drivenRow(4), "IOB", "under " + shaft,
                    b -> b.speed(shaft, true));
            Check.refused(Benches::row, "IOB", "none told, " + shaft, b -> b.speed(shaft, true));
        }
    }

    private static void speedNotTold() {
        Check.says("Promise 13: Throws IllegalStateException if it is not told");
        Check.Make bench = () -> Benches.train(6, 10, 20, 10, 20);
        Check.taken(bench, 3, "the last that is told", b -> b.speed(2, false));
        Check.taken(bench, 2, "below it", b -> b.speed(2, true));
        Check.refused(bench, "ISE", "the first that is not", b -> b.speed(3, false));
        Check.refused(bench, "ISE", "below that", b -> b.speed(3, true));
        Check.refused(bench, "ISE", "the last shaft", b -> b.speed(9, false));
    }

    // ---- promise 14: stage

    private static void stageShaft() {
        Check.says("Promise 14: Throws IndexOutOfBoundsException if there is no such shaft");
        for (int shaft : Benches.outside(10)) {
            Check.refused(() -> Benches.drivenRow(4), "IOB", "shaft " + shaft, b -> b.stage(shaft));
            Check.refused(Benches::row, "IOB", "none told, " + shaft, b -> b.stage(shaft));
        }
        Check.refused(() -> Benches.withShafts(3), "IOB", "a 4th", b -> b.stage(3));
    }

    private static void stageEnds() {
        Check.says("Promise 14: Returns its stage; -1 if its speed is not told. 0 for the driver "
                + "and held ones; 1 more than the other shaft of a mesh");
        for (int k = 0; k < 10; k++) {
            int shaft = k;
            Check.taken(() -> Benches.drivenRow(0), k, "from the first", b -> b.stage(shaft));
            Check.taken(() -> Benches.drivenRow(9), 9 - k, "from the last", b -> b.stage(shaft));
            Check.taken(() -> Benches.drivenRow(4), Math.abs(k - 4), "from between",
                    b -> b.stage(shaft));
        }
        GearTrains bench = Benches.train(5, 10, 20, 10, 20);
        Check.same("not told", bench.stage(3), -1);
        bench.hold(2, true);
        Check.same("held", bench.stage(2), 0);
        bench.hold(3, true);
        Check.same("held alone", bench.stage(3), 0);
        bench.hold(3, false);
        Check.same("not told again", bench.stage(3), -1);
    }

    private static void stageOfSet() {
        Check.says("One told by a set has 1 more than the greater one of both others");
        int[][] shafts = {{9, 0, 2}, {9, 2, 0}, {0, 9, 2}, {2, 9, 0}, {0, 2, 9}, {2, 0, 9},
            {9, 8, 2}, {9, 2, 8}, {8, 9, 2}, {2, 9, 8}, {8, 2, 9}, {2, 8, 9}};
        for (int[] row : shafts) {
            GearTrains bench = Benches.train(6, 10, 20, 10, 20);
            bench.hold(8, true);
            bench.addPlanets(row[0], row[1], row[2], 8, 8);
            Check.same("of 0 and 2: " + java.util.Arrays.toString(row), bench.stage(9), 3);
        }
        GearTrains bench = Benches.train(6, 10, 20, 10, 20);
        bench.hold(8, true);
        bench.addPlanets(0, 8, 7, 8, 8);
        Check.same("of 0 and 0", bench.stage(7), 1);
        bench.addPlanets(7, 1, 6, 8, 8);
        Check.same("of 1 and 1", bench.stage(6), 2);
        bench.addPlanets(6, 2, 5, 8, 8);
        Check.same("of 2 and 2", bench.stage(5), 3);
    }

    // ---- promise 15: ratio

    private static void ratioShafts() {
        Check.says("Promise 15: Throws IndexOutOfBoundsException if there is no such shaft");
        Check.Make bench = () -> Benches.drivenChain(3);
        Check.taken(bench, -2.0, "the first", b -> b.ratio(0, 1));
        Check.taken(bench, -0.5, "the last", b -> b.ratio(2, 1));
        Check.taken(bench, 4.0, "both", b -> b.ratio(0, 2));
        for (int shaft : Benches.outside(3)) {
            Check.refused(bench, "IOB", "a " + shaft, b -> b.ratio(shaft, 0));
            Check.refused(bench, "IOB", "b " + shaft, b -> b.ratio(0, shaft));
            Check.refused(bench, "IOB", "both " + shaft, b -> b.ratio(shaft, shaft));
        }
    }

    private static void ratioNotTold() {
        Check.says("Promise 15: Throws IllegalStateException if one of them is not told");
        Check.Make bench = () -> Benches.train(6, 10, 20);
        Check.taken(bench, -2.0, "both told", b -> b.ratio(0, 1));
        Check.refused(bench, "ISE", "the first is not", b -> b.ratio(2, 0));
        Check.refused(bench, "ISE", "the second is not", b -> b.ratio(0, 2));
        Check.refused(bench, "ISE", "neither is", b -> b.ratio(2, 3));
        Check.refused(bench, "ISE", "the same one", b -> b.ratio(2, 2));
    }

    private static void ratioByZero() {
        Check.says("Promise 15: Throws IllegalStateException if the second one is 0");
        Check.Make bench = () -> heldBeside(6);
        Check.taken(bench, 0.0, "the first one is 0", b -> b.ratio(9, 0));
        Check.taken(bench, -0.0, "0 by one below 0", b -> b.ratio(9, 1));
        Check.refused(bench, "ISE", "by a held one", b -> b.ratio(0, 9));
        Check.refused(bench, "ISE", "0 by 0", b -> b.ratio(9, 9));
        Check.refused(bench, "ISE", "not told by 0", b -> b.ratio(5, 9));
        Check.Make still = () -> heldBeside(0);
        Check.refused(still, "ISE", "by the driver with 0", b -> b.ratio(9, 0));
        Check.refused(still, "ISE", "by one told with 0", b -> b.ratio(0, 1));
        Check.taken(() -> heldBeside(1), 1.0, "1 is not 0", b -> b.ratio(0, 0));
        Check.taken(() -> heldBeside(-1), -2.0, "nor is -1", b -> b.ratio(1, 0) * 4);
        Check.taken(() -> Benches.train(1, 9, 100, 9, 100, 9, 100), 1000000.0 / 729 * -1,
                "nor is the least of all", b -> b.ratio(0, 3));
    }

    /** Shafts 0 and 1 meshed, 10 to 20 teeth; shaft 9 is held. */
    private static GearTrains heldBeside(int speed) {
        GearTrains bench = Benches.train(speed, 10, 20);
        bench.hold(9, true);
        return bench;
    }

    private static void ratioOrder() {
        Check.says("Promise 15: the exception named first: no shaft before not told or 0");
        Check.Make bench = () -> heldBeside(6);
        for (int shaft : Benches.outside(10)) {
            Check.refused(bench, "IOB", "by a free one, " + shaft, b -> b.ratio(shaft, 5));
            Check.refused(bench, "IOB", "a free one by " + shaft, b -> b.ratio(5, shaft));
            Check.refused(bench, "IOB", "by 0, " + shaft, b -> b.ratio(shaft, 9));
            Check.refused(bench, "IOB", "0 by " + shaft, b -> b.ratio(9, shaft));
        }
    }

    private static void ratioQuotient() {
        Check.says("Promise 15: both as doubles (numerator by denominator), then the quotient");
        GearTrains bench = Benches.train(7, 9, 49, 11, 8, 13, 10, 23, 29, 8, 111);
        for (int a = 0; a <= 5; a++) {
            for (int b = 0; b <= 5; b++) {
                double first = (double) bench.speed(a, false) / bench.speed(a, true);
                double second = (double) bench.speed(b, false) / bench.speed(b, true);
                Check.same(a + " by " + b, bench.ratio(a, b), first / second);
            }
        }
        bench = Benches.train(1000, 125, 8, 128, 8, 100, 25);
        Check.same("the greatest", bench.ratio(3, 0), -1000.0);
        Check.same("turned", bench.ratio(0, 3), -0.001);
    }

    // ---- promises 16 and 17: broken and free

    private static void brokenNone() {
        Check.says("Promise 16: Returns the set of those that are broken: none");
        Check.taken(Benches::row, 0, "nothing told", b -> b.broken(false));
        Check.taken(() -> Benches.drivenRow(3), 0, "all of them hold", b -> b.broken(false));
        Check.taken(() -> Benches.drivenRow(3), 0, "no planet sets", b -> b.broken(true));
        Check.taken(() -> Benches.drivenChain(3), 0, "with speeds", b -> b.broken(false));
    }

    private static void brokenAll() {
        Check.says("Promise 16: as the sum of the powers 2^k of their numbers k");
        Check.taken(Benches::allBroken, 65535, "16 meshes", b -> b.broken(false));
        Check.taken(Benches::allBroken, 15, "4 planet sets", b -> b.broken(true));
        GearTrains bench = Benches.allBroken();
        for (int left = 15; left >= 0; left--) {
            bench.unmesh();
            Check.same(left + " meshes", bench.broken(false), (1 << left) - 1);
        }
        for (int k = 0; k < 4; k++) {
            Check.same("set " + k + " alone", onlyBroken(k), 1 << k);
        }
    }

    /** The sets of which just this one has the shaft that is held against it. */
    private static int onlyBroken(int set) {
        GearTrains bench = Benches.withShafts(5);
        bench.hold(1, true);
        bench.hold(2, true);
        bench.hold(3, true);
        bench.drive(0, 1);
        for (int k = 0; k < 4; k++) {
            bench.addPlanets(k == set ? 0 : 3, 1, 2, 8, 8);
        }
        return bench.broken(true);
    }

    private static void brokenNotTold() {
        Check.says("A mesh or planet set is broken if all its shafts are told");
        Check.taken(() -> Benches.train(212, 53, 9, 89, 9), 0, "the second gear's is free",
                b -> b.broken(false));
        Check.taken(() -> lastDrives(212, 9, 53, 9, 89), 0, "the first gear's is free",
                b -> b.broken(false));
        int[][] freeIsNine = {{9, 8, 2}, {8, 9, 2}, {2, 8, 9}};
        for (int[] row : freeIsNine) {
            GearTrains bench = Benches.train(53, 53, 9, 89, 9);
            bench.hold(8, true);
            bench.addPlanets(row[0], row[1], row[2], 97, 89);
            Check.same("left aside", Benches.toldIn(bench, 9), "free");
            Check.same("not broken", bench.broken(true), 0);
            bench.hold(9, true);
            Check.same("told, and broken", bench.broken(true), 1);
        }
    }

    private static GearTrains lastDrives(int speed, int... teeth) {
        GearTrains bench = Benches.train(0, teeth);
        bench.drive(2, speed);
        return bench;
    }

    private static void brokenByOne() {
        Check.says("A mesh or planet set is broken if its equation does not hold");
        int[] teeth = {79, 80, 81};
        for (int ring : teeth) {
            GearTrains bench = Benches.train(7, 20, 10, 20, 10);
            int first = bench.addGear(0, ring, 1, 5, true);
            bench.mesh(first, bench.addGear(2, 20, 1, 5, false));
            Check.same("a ring of " + ring + " to 20, where 80 holds", bench.broken(false),
                    ring == 80 ? 0 : 4);
        }
        for (int ring : teeth) {
            GearTrains bench = Benches.withShafts(3);
            int first = bench.addGear(2, ring, 1, 5, true);
            bench.mesh(first, bench.addGear(0, 20, 1, 5, false));
            bench.addPlanets(0, 1, 2, 20, 20);
            bench.hold(1, true);
            bench.drive(0, 7);
            Check.same("a carrier with 20 to " + ring + ", where 80 holds", bench.broken(true),
                    ring == 80 ? 0 : 1);
        }
        GearTrains bench = Benches.train(7, 20, 20);
        int first = bench.addGear(0, 30, 1, 5, true);
        bench.mesh(first, bench.addGear(1, 29, 1, 5, false));
        Check.same("the sign counts", bench.broken(false), 2);
    }

    private static void freeEnds() {
        Check.says("Promise 17: Returns the number of shafts that are free");
        for (int told = 0; told <= 10; told++) {
            GearTrains bench = Benches.withShafts(10);
            for (int k = 0; k < told; k++) {
                bench.hold(k, true);
            }
            Check.same(told + " are held", bench.free(), 10 - told);
        }
        Check.taken(() -> Benches.drivenRow(0), 0, "none", b -> b.free());
        Check.taken(() -> Benches.withShafts(1), 1, "the only one", b -> b.free());
    }

    // ---- promise 18: torque

    private static void torqueShaft() {
        Check.says("Promise 18: Throws IndexOutOfBoundsException if there is no such shaft");
        Check.Make bench = () -> Benches.drivenChain(3);
        Check.taken(bench, 100, "the first", b -> b.torque(0, 100));
        Check.taken(bench, 384, "the last", b -> b.torque(2, 100));
        for (int shaft : Benches.outside(3)) {
            Check.refused(bench, "IOB", "shaft " + shaft, b -> b.torque(shaft, 100));
        }
    }

    private static void torqueNumber() {
        Check.says("Promise 18: Throws IllegalArgumentException if torque is not 1 to 10000");
        Check.Make bench = () -> Benches.drivenChain(3);
        for (int torque : new int[] {1, 2, 9999, 10000}) {
            Check.taken(bench, torque, "torque " + torque, b -> b.torque(0, torque));
        }
        for (int torque : Benches.beyond(1, 10000)) {
            Check.refused(bench, "IAE", "torque " + torque, b -> b.torque(0, torque));
            Check.refused(bench, "IAE", "at the last, " + torque, b -> b.torque(2, torque));
        }
    }

    private static void torqueNoDriver() {
        Check.says("Promise 18: Throws IllegalStateException if there is no driver");
        Check.refused(Benches::row, "ISE", "nothing told", b -> b.torque(0, 100));
        Check.refused(SpeedEdgesTest::heldOnly, "ISE", "a held one", b -> b.torque(0, 100));
        Check.refused(SpeedEdgesTest::heldOnly, "ISE", "told by it", b -> b.torque(1, 100));
    }

    private static GearTrains heldOnly() {
        GearTrains bench = Benches.row();
        bench.hold(0, true);
        return bench;
    }

    private static void torqueNotTold() {
        Check.says("Promise 18: Throws IllegalStateException if the shaft is not told");
        Check.taken(() -> heldBeside(6), -196, "the last told", b -> b.torque(1, 100));
        Check.refused(() -> heldBeside(6), "ISE", "the first free", b -> b.torque(2, 100));
        Check.refused(() -> Benches.train(212, 53, 9, 89, 9), "ISE", "left aside",
                b -> b.torque(2, 100));
    }

    private static void torqueZero() {
        Check.says("Promise 18: Throws IllegalStateException if its speed is 0");
        Check.refused(() -> heldBeside(6), "ISE", "a held one", b -> b.torque(9, 100));
        Check.refused(() -> heldBeside(0), "ISE", "the driver", b -> b.torque(0, 100));
        Check.refused(() -> heldBeside(0), "ISE", "told by it", b -> b.torque(1, 100));
        Check.taken(() -> heldBeside(1), 100, "1 is not 0", b -> b.torque(0, 100));
        Check.taken(() -> heldBeside(-1), 100, "nor is -1", b -> b.torque(0, 100));
        Check.taken(() -> heldBeside(-1), -196, "nor is 1 / 2", b -> b.torque(1, 100));
    }

    private static void torqueOrder() {
        Check.says("Promise 18: the exception named first: no shaft, a wrong torque, the rest");
        for (int shaft : Benches.outside(10)) {
            Check.refused(() -> heldBeside(6), "IOB", "torque 0 at " + shaft,
                    b -> b.torque(shaft, 0));
            Check.refused(() -> heldBeside(6), "IOB", "torque 10001 at " + shaft,
                    b -> b.torque(shaft, 10001));
            Check.refused(Benches::row, "IOB", "no driver, " + shaft, b -> b.torque(shaft, 5));
            Check.refused(Benches::row, "IOB", "no driver, all of it, " + shaft,
                    b -> b.torque(shaft, 0));
        }
        for (int torque : Benches.beyond(1, 10000)) {
            Check.refused(Benches::row, "IAE", "no driver, " + torque, b -> b.torque(0, torque));
            Check.refused(SpeedEdgesTest::heldOnly, "IAE", "no driver, held, " + torque,
                    b -> b.torque(0, torque));
            Check.refused(() -> heldBeside(6), "IAE", "not told, " + torque,
                    b -> b.torque(5, torque));
            Check.refused(() -> heldBeside(6), "IAE", "0, " + torque, b -> b.torque(9, torque));
        }
    }

    private static void torqueAtDriver() {
        Check.says("Promise 18: as often as the stage says: not at all at the driver");
        for (int speed : new int[] {-1000, -1, 1, 1000}) {
            Check.taken(() -> heldBeside(speed), 9999, "speed " + speed, b -> b.torque(0, 9999));
        }
    }

    private static void torqueCutByStage() {
        Check.says("Promise 18: multiplied by 98 and divided by 100 (cut towards 0) as often as "
                + "the stage of the shaft says");
        GearTrains bench = Benches.drivenRow(0);
        bench.drive(0, 3);
        long[] due = {10000, -9800, 9604, -9411, 9222, -9037, 8856, -8678, 8504, -8333};
        long[] ofFifty = {50, -49, 48, -47, 46, -45, 44, -43, 42, -41};
        for (int k = 0; k < 10; k++) {
            Check.same("10000, stage " + k, bench.torque(k, 10000), due[k]);
            Check.same("50, stage " + k, bench.torque(k, 50), ofFifty[k]);
            Check.same("1, stage " + k, bench.torque(k, 1), k == 0 ? 1L : 0L);
        }
        Check.same("2 is cut to 1", bench.torque(1, 2), -1L);
        Check.same("and then to 0", bench.torque(2, 2), 0L);
    }

    private static void torqueCutTowardsZero() {
        Check.says("Promise 18: multiplied by the speed of the driver, multiplied by its "
                + "denominator, and divided by its numerator; cut towards 0");
        // 16 * 98 / 100 is cut to 15: by 7 and -14 that is 7.5.
        Check.taken(() -> Benches.train(7, 20, 10), -7, "-7.5", b -> b.torque(1, 16));
        Check.taken(() -> Benches.train(-7, 20, 10), -7, "-7.5, turned", b -> b.torque(1, 16));
        Check.taken(() -> Benches.train(7, 20, 10, 20, 10), 3, "3.5", b -> b.torque(2, 16));
        Check.taken(() -> Benches.train(-7, 20, 10, 20, 10), 3, "3.5, turned",
                b -> b.torque(2, 16));
        Check.taken(() -> Benches.train(7, 200, 8), 0, "-0.04", b -> b.torque(1, 2));
        Check.taken(() -> Benches.train(7, 8, 9), -11025, "by -56 / 9", b -> b.torque(1, 10000));
        Check.taken(() -> Benches.train(7, 9, 8), -8, "10 * 8 / 9", b -> b.torque(1, 11));
    }

    private static void torqueGreatest() {
        Check.says("Promise 18: Returns the torque at the shaft: it may be greater than an int");
        int[] teeth = {8, 200, 8, 200, 8, 200, 8, 200, 8, 128, 8, 128, 8, 80};
        Check.same("the slowest", Benches.told(7, 1000, teeth), "-1/1000000");
        Check.taken(() -> Benches.train(1000, teeth), -8678000000000L, "below 0",
                b -> b.torque(7, 10000));
        Check.taken(() -> Benches.train(-1000, teeth), -8678000000000L, "turned",
                b -> b.torque(7, 10000));
        Check.taken(() -> Benches.train(1000, teeth), 0, "the least", b -> b.torque(7, 1));
        int[] fast = {125, 8, 128, 8, 100, 25};
        Check.taken(() -> Benches.train(1000, fast), -9, "the fastest", b -> b.torque(3, 10000));
    }
}
