/** Each promise by hand-made cases: ordinary ones, the edges of the document, wrong calls. */
public final class PromiseTest {
    private static final int MIN = Benches.MIN;
    private static final int MAX = Benches.MAX;

    public static void main(String[] args) {
        newObject();
        addShaft();
        move();
        addGear();
        mesh();
        meshOfRings();
        fullMeshes();
        unmesh();
        addPlanets();
        planets();
        count();
        drive();
        hold();
        isTold();
        speed();
        speedsByMeshesFirst();
        speedsBySmallestNumber();
        speedsBySets();
        speedsLeftAside();
        speedAtTheLimit();
        stage();
        stageBySets();
        ratio();
        brokenMeshes();
        brokenSets();
        free();
        torque();
        distance();
        misfits();
        collisions();
        suggest();
        digest();
        Check.end();
    }

    // ---- promises 1 to 9: shafts and gears

    private static void newObject() {
        GearTrains bench = new GearTrains();
        for (int what = 0; what < 4; what++) {
            Check.same("new: count " + what, bench.count(what), 0);
        }
        Check.same("new: free", bench.free(), 0);
        Check.same("new: broken meshes", bench.broken(false), 0);
        Check.same("new: broken sets", bench.broken(true), 0);
        Check.same("new: misfits", bench.misfits(), 0);
        Check.same("new: collisions", bench.collisions(), 0);
        Check.same("new: digest", bench.digest(), Benches.mix(0, -1, 0, 0, 0, 0, 0, 0));
        bench.addShaft(1, 2);
        Check.same("new: there is no driver", bench.drive(0, 5), -1);
        Check.same("new: another one is free of it", new GearTrains().count(0), 0);
    }

    private static void addShaft() {
        GearTrains bench = new GearTrains();
        Check.same("first shaft", bench.addShaft(-1000, 1000), 0);
        Check.same("second shaft", bench.addShaft(1000, -1000), 1);
        Check.same("same place again", bench.addShaft(1000, -1000), 2);
        Check.same("coordinates are kept", bench.digest(), Benches.mix(3, -1000, 1000, 0, -1,
                1000, -1000, 0, -1, 1000, -1000, 0, -1, -1, 0, 0, 0, 0, 0, 0));
        int[] wrong = {-1001, 1001, MIN, MAX};
        for (int far : wrong) {
            Check.refused(bench, "IAE", "addShaft x " + far, () -> bench.addShaft(far, 0));
            Check.refused(bench, "IAE", "addShaft y " + far, () -> bench.addShaft(0, far));
        }
        for (int k = 3; k < 10; k++) {
            Check.same("shaft " + k, bench.addShaft(k, k), k);
        }
        Check.refused(bench, "ISE", "an 11th shaft", () -> bench.addShaft(0, 0));
        Check.refused(bench, "IAE", "an 11th shaft too far", () -> bench.addShaft(1001, 0));
        Check.same("10 shafts", bench.count(0), 10);
    }

    private static void move() {
        GearTrains bench = Benches.withShafts(2);
        Check.same("move by 3, 4", bench.move(0, -3, 4), 25);
        Check.same("move to the same place", bench.move(0, -3, 4), 0);
        Check.same("move to the corner", bench.move(0, -1000, -1000), 997 * 997 + 1004 * 1004);
        Check.same("move across", bench.move(0, 1000, 1000), 8000000);
        Check.same("where they are now", bench.digest(), Benches.mix(2, 1000, 1000, 0, -1,
                100, 0, 0, -1, -1, 0, 0, 0, 0, 0, 0));
        int[] noShaft = {-1, 2, MIN, MAX};
        for (int shaft : noShaft) {
            Check.refused(bench, "IOB", "move shaft " + shaft, () -> bench.move(shaft, 0, 0));
        }
        int[] wrong = {-1001, 1001, MIN, MAX};
        for (int far : wrong) {
            Check.refused(bench, "IAE", "move x " + far, () -> bench.move(1, far, 0));
            Check.refused(bench, "IAE", "move y " + far, () -> bench.move(1, 0, far));
        }
        Check.refused(bench, "IOB", "move all wrong", () -> bench.move(2, 1001, 1001));
    }

    private static void addGear() {
        GearTrains bench = Benches.withShafts(1);
        Check.same("least gear", bench.addGear(0, 8, 1, 0, false), 0);
        Check.same("greatest gear", bench.addGear(0, 200, 10, 5, true), 1);
        Check.refused(bench, "IOB", "gear on -1", () -> bench.addGear(-1, 8, 1, 0, false));
        Check.refused(bench, "IOB", "gear on 1", () -> bench.addGear(1, 8, 1, 0, false));
        Check.refused(bench, "IOB", "all wrong", () -> bench.addGear(MAX, 7, 0, -1, false));
        int[] teeth = {7, 201, MIN, MAX};
        for (int t : teeth) {
            Check.refused(bench, "IAE", "teeth " + t, () -> bench.addGear(0, t, 1, 0, false));
        }
        int[] modules = {0, 11, MIN, MAX};
        for (int m : modules) {
            Check.refused(bench, "IAE", "module " + m, () -> bench.addGear(0, 8, m, 0, true));
        }
        int[] layers = {-1, 6, MIN, MAX};
        for (int l : layers) {
            Check.refused(bench, "IAE", "layer " + l, () -> bench.addGear(0, 8, 1, l, true));
        }
        for (int k = 2; k < 16; k++) {
            Check.same("gear " + k, bench.addGear(0, 20, 1, 0, false), k);
        }
        Check.refused(bench, "ISE", "a 17th gear", () -> bench.addGear(0, 8, 1, 0, false));
        Check.refused(bench, "IAE", "a 17th wrong", () -> bench.addGear(0, 8, 1, 6, false));
        Check.refused(bench, "IOB", "a 17th on none", () -> bench.addGear(1, 8, 1, 6, false));
        Check.same("16 gears", bench.count(1), 16);
    }

    private static void mesh() {
        GearTrains bench = Benches.withShafts(3);
        bench.addGear(0, 20, 2, 1, false);
        bench.addGear(1, 30, 2, 1, false);
        bench.addGear(1, 30, 3, 1, false);
        bench.addGear(1, 30, 2, 2, false);
        bench.addGear(0, 40, 2, 1, false);
        bench.addGear(2, 20, 2, 1, false);
        int[] noGear = {-1, 6, MIN, MAX};
        for (int gear : noGear) {
            Check.refused(bench, "IOB", "mesh a " + gear, () -> bench.mesh(gear, 1));
            Check.refused(bench, "IOB", "mesh b " + gear, () -> bench.mesh(0, gear));
        }
        Check.refused(bench, "IAE", "a gear with itself", () -> bench.mesh(0, 0));
        Check.refused(bench, "IAE", "the same shaft", () -> bench.mesh(0, 4));
        Check.refused(bench, "IAE", "another module", () -> bench.mesh(0, 2));
        Check.refused(bench, "IAE", "another layer", () -> bench.mesh(0, 3));
        Check.same("first mesh", bench.mesh(0, 1), 0);
        Check.refused(bench, "IAE", "the same two", () -> bench.mesh(0, 1));
        Check.refused(bench, "IAE", "the same two, turned", () -> bench.mesh(1, 0));
        Check.same("second mesh, of the same shafts", bench.mesh(1, 4), 1);
        Check.same("third mesh, as many teeth", bench.mesh(5, 0), 2);
        Check.same("3 meshes", bench.count(2), 3);
    }

    private static void meshOfRings() {
        GearTrains bench = Benches.withShafts(2);
        bench.addGear(0, 20, 1, 0, false);
        bench.addGear(1, 20, 1, 0, true);
        bench.addGear(1, 19, 1, 0, true);
        bench.addGear(1, 21, 1, 0, true);
        bench.addGear(0, 30, 1, 0, true);
        bench.addGear(1, 29, 1, 0, false);
        bench.addGear(1, 31, 1, 0, false);
        Check.refused(bench, "IAE", "as many teeth", () -> bench.mesh(0, 1));
        Check.refused(bench, "IAE", "as many teeth, turned", () -> bench.mesh(1, 0));
        Check.refused(bench, "IAE", "ring with less", () -> bench.mesh(0, 2));
        Check.refused(bench, "IAE", "ring with less, turned", () -> bench.mesh(2, 0));
        Check.refused(bench, "IAE", "two rings", () -> bench.mesh(4, 3));
        Check.refused(bench, "IAE", "two rings, turned", () -> bench.mesh(3, 4));
        Check.refused(bench, "IAE", "small ring first", () -> bench.mesh(4, 6));
        Check.same("ring with more", bench.mesh(0, 3), 0);
        Check.same("ring first", bench.mesh(4, 5), 1);
    }

    private static void fullMeshes() {
        GearTrains bench = Benches.withShafts(2);
        for (int k = 0; k < 10; k++) {
            bench.addGear(k % 2, 20, 1, 0, false);
        }
        int made = 0;
        for (int a = 0; a < 10 && made < 16; a += 2) {
            for (int b = 1; b < 10 && made < 16; b += 2) {
                Check.same("mesh " + made, bench.mesh(a, b), made);
                made++;
            }
        }
        Check.refused(bench, "ISE", "a 17th mesh", () -> bench.mesh(8, 9));
        Check.refused(bench, "IAE", "a 17th that can't be", () -> bench.mesh(0, 2));
        Check.refused(bench, "IAE", "a 17th, meshed already", () -> bench.mesh(1, 0));
        Check.refused(bench, "IOB", "a 17th of none", () -> bench.mesh(0, 10));
        Check.same("one less", bench.unmesh(), 15);
        Check.same("and one again", bench.mesh(9, 8), 15);
    }

    private static void unmesh() {
        GearTrains bench = Benches.chain(4);
        bench.drive(0, 8);
        Check.same("all told", bench.free(), 0);
        Check.same("two left", bench.unmesh(), 2);
        Check.same("the latest one went", bench.isTold(3), false);
        Check.same("the others stayed", bench.isTold(2), true);
        Check.same("one left", bench.unmesh(), 1);
        Check.same("none left", bench.unmesh(), 0);
        Check.same("all free but the driver", bench.free(), 3);
        Check.refused(bench, "ISE", "unmesh of none", () -> bench.unmesh());
        Check.same("can be meshed again", bench.mesh(1, 0), 0);
        Check.same("and tells again", Benches.speedOf(bench, 1), "-4/1");
        Check.refused(new GearTrains(), "ISE", "unmesh when new", () -> new GearTrains().unmesh());
    }

    private static void addPlanets() {
        GearTrains bench = Benches.withShafts(4);
        int[] noShaft = {-1, 4, MIN, MAX};
        for (int n : noShaft) {
            Check.refused(bench, "IOB", "sun " + n, () -> bench.addPlanets(n, 1, 2, 8, 8));
            Check.refused(bench, "IOB", "ring " + n, () -> bench.addPlanets(0, n, 2, 8, 8));
            Check.refused(bench, "IOB", "carrier " + n, () -> bench.addPlanets(0, 1, n, 8, 8));
        }
        Check.refused(bench, "IOB", "all wrong", () -> bench.addPlanets(0, 0, 4, 7, 7));
        Check.refused(bench, "IOB", "twice none", () -> bench.addPlanets(4, 4, 0, 8, 8));
        Check.refused(bench, "IAE", "sun is ring", () -> bench.addPlanets(1, 1, 2, 8, 8));
        Check.refused(bench, "IAE", "sun is carrier", () -> bench.addPlanets(1, 2, 1, 8, 8));
        Check.refused(bench, "IAE", "ring is carrier", () -> bench.addPlanets(1, 2, 2, 8, 8));
        int[] teeth = {7, 101, MIN, MAX};
        for (int t : teeth) {
            Check.refused(bench, "IAE", "s " + t, () -> bench.addPlanets(0, 1, 2, t, 8));
            Check.refused(bench, "IAE", "p " + t, () -> bench.addPlanets(0, 1, 2, 8, t));
        }
        Check.same("first set", bench.addPlanets(0, 1, 2, 8, 100), 0);
        Check.same("second set", bench.addPlanets(0, 1, 2, 100, 8), 1);
        Check.same("the same again", bench.addPlanets(0, 1, 2, 100, 8), 2);
        Check.same("another shaft", bench.addPlanets(3, 1, 2, 20, 20), 3);
        Check.refused(bench, "ISE", "a 5th set", () -> bench.addPlanets(0, 1, 2, 8, 8));
        Check.refused(bench, "IAE", "a 5th wrong", () -> bench.addPlanets(0, 1, 2, 7, 8));
        Check.refused(bench, "IOB", "a 5th of none", () -> bench.addPlanets(0, 1, 4, 7, 8));
        Check.same("4 sets", bench.count(3), 4);
    }

    private static void planets() {
        GearTrains bench = Benches.withShafts(3);
        bench.addPlanets(0, 1, 2, 24, 12);
        int[] due = {1, 2, 3, 4, 4, 6, 6, 8, 9, 9, 9, 12};
        for (int most = 1; most <= 12; most++) {
            Check.same("72 teeth, up to " + most, bench.planets(0, most), due[most - 1]);
        }
        bench.addPlanets(0, 1, 2, 8, 9);
        Check.same("34 teeth, up to 12", bench.planets(1, 12), 2);
        bench.addPlanets(0, 1, 2, 13, 9);
        Check.same("44 teeth, up to 12", bench.planets(2, 12), 11);
        int[] noSet = {-1, 3, MIN, MAX};
        for (int set : noSet) {
            Check.refused(bench, "IOB", "planets of " + set, () -> bench.planets(set, 5));
            Check.refused(bench, "IOB", "both wrong " + set, () -> bench.planets(set, 0));
        }
        int[] wrong = {0, 13, -1, MIN, MAX};
        for (int most : wrong) {
            Check.refused(bench, "IAE", "planets up to " + most, () -> bench.planets(0, most));
        }
    }

    private static void count() {
        GearTrains bench = Benches.withShafts(5);
        for (int k = 0; k < 4; k++) {
            bench.addGear(k % 2, 20, 1, 0, false);
        }
        bench.mesh(0, 1);
        bench.mesh(0, 3);
        bench.mesh(2, 3);
        bench.addPlanets(0, 1, 2, 8, 8);
        Check.same("shafts", bench.count(0), 5);
        Check.same("gears", bench.count(1), 4);
        Check.same("meshes", bench.count(2), 3);
        Check.same("sets", bench.count(3), 1);
        int[] wrong = {-1, 4, MIN, MAX};
        for (int what : wrong) {
            Check.refused(bench, "IOB", "count " + what, () -> bench.count(what));
        }
    }

    // ---- promises 10 and 11: what drives and holds

    private static void drive() {
        GearTrains bench = Benches.withShafts(3);
        Check.same("no driver before", bench.drive(1, 1000), -1);
        Check.same("told", Benches.speedOf(bench, 1), "1000/1");
        Check.same("itself before", bench.drive(1, -1000), 1);
        Check.same("told anew", Benches.speedOf(bench, 1), "-1000/1");
        Check.same("the one before", bench.drive(0, 0), 1);
        Check.same("which is free", bench.isTold(1), false);
        Check.same("a driver that stands still", Benches.speedOf(bench, 0), "0/1");
        bench.hold(2, true);
        Check.same("a held one drives", bench.drive(2, 7), 0);
        Check.same("and turns", Benches.speedOf(bench, 2), "7/1");
        Check.same("back", bench.drive(0, 3), 2);
        Check.same("it is held no more", bench.isTold(2), false);
        Check.same("hold says so", bench.hold(2, true), false);
        int[] noShaft = {-1, 3, MIN, MAX};
        for (int shaft : noShaft) {
            Check.refused(bench, "IOB", "drive " + shaft, () -> bench.drive(shaft, 0));
        }
        Check.refused(bench, "IOB", "drive all wrong", () -> bench.drive(3, 1001));
        int[] wrong = {-1001, 1001, MIN, MAX};
        for (int speed : wrong) {
            Check.refused(bench, "IAE", "drive with " + speed, () -> bench.drive(2, speed));
            Check.refused(bench, "IAE", "driver with " + speed, () -> bench.drive(0, speed));
        }
        Check.same("still held", bench.hold(2, true), true);
    }

    private static void hold() {
        GearTrains bench = Benches.withShafts(3);
        Check.same("not held before", bench.hold(0, true), false);
        Check.same("stands still", Benches.speedOf(bench, 0), "0/1");
        Check.same("held before", bench.hold(0, true), true);
        Check.same("let go", bench.hold(0, false), true);
        Check.same("is free", bench.isTold(0), false);
        Check.same("let go again", bench.hold(0, false), false);
        bench.hold(1, true);
        bench.drive(2, 5);
        Check.refused(bench, "ISE", "hold the driver", () -> bench.hold(2, true));
        Check.refused(bench, "ISE", "let the driver go", () -> bench.hold(2, false));
        int[] noShaft = {-1, 3, MIN, MAX};
        for (int shaft : noShaft) {
            Check.refused(bench, "IOB", "hold " + shaft, () -> bench.hold(shaft, true));
        }
        bench.drive(1, 5);
        Check.same("the driver before can be held", bench.hold(2, true), false);
        Check.same("held in the digest", bench.digest(), Benches.mix(3, 0, 0, 0, -1,
                100, 0, 0, 0, 5, 1, 200, 0, 1, 0, 0, 1, 1, 0, 0, 0, 0, 0, 0));
    }

    // ---- promises 12 to 18: speeds

    private static void isTold() {
        GearTrains bench = Benches.chain(3);
        Check.same("nothing drives", bench.isTold(0), false);
        bench.drive(1, 0);
        for (int k = 0; k < 3; k++) {
            Check.same("told " + k, bench.isTold(k), true);
        }
        bench.addShaft(0, 0);
        Check.same("a new one is free", bench.isTold(3), false);
        bench.hold(3, true);
        Check.same("held", bench.isTold(3), true);
        int[] noShaft = {-1, 4, MIN, MAX};
        for (int shaft : noShaft) {
            Check.refused(bench, "IOB", "isTold " + shaft, () -> bench.isTold(shaft));
        }
    }

    private static void speed() {
        GearTrains bench = Benches.chain(4);
        bench.drive(0, 6);
        Check.same("the driver", Benches.speedOf(bench, 0), "6/1");
        Check.same("turned the other way", Benches.speedOf(bench, 1), "-3/1");
        Check.same("in lowest terms", Benches.speedOf(bench, 2), "3/2");
        Check.same("sign above", Benches.speedOf(bench, 3), "-3/4");
        bench.drive(3, 6);
        Check.same("from the other end", Benches.speedOf(bench, 0), "-48/1");
        bench.drive(0, 0);
        Check.same("0 is 0/1", Benches.speedOf(bench, 3), "0/1");
        int ring = bench.addGear(0, 60, 2, 5, true);
        int inner = bench.addGear(bench.addShaft(0, 0), 24, 2, 5, false);
        bench.mesh(ring, inner);
        bench.drive(0, 7);
        Check.same("a ring turns the same way", Benches.speedOf(bench, 4), "35/2");
        bench.drive(4, -7);
        Check.same("and is turned so", Benches.speedOf(bench, 0), "-14/5");
        bench.unmesh();
        Check.refused(bench, "ISE", "a free one", () -> bench.speed(0, false));
        Check.refused(bench, "ISE", "below a free one", () -> bench.speed(0, true));
        int[] noShaft = {-1, 5, MIN, MAX};
        for (int shaft : noShaft) {
            Check.refused(bench, "IOB", "speed " + shaft, () -> bench.speed(shaft, true));
        }
    }

    private static void speedsByMeshesFirst() {
        GearTrains bench = Benches.withShafts(3);
        bench.addPlanets(0, 1, 2, 20, 10);
        Benches.pair(bench, 0, 10, 2, 50, 0);
        bench.drive(0, 30);
        bench.hold(1, true);
        Check.same("the mesh tells, not the set", Benches.speedOf(bench, 2), "-6/1");
        Check.same("the set is broken", bench.broken(true), 1);
        bench.unmesh();
        Check.same("then the set tells", Benches.speedOf(bench, 2), "10/1");
        Check.same("and holds", bench.broken(true), 0);
    }

    private static void speedsBySmallestNumber() {
        GearTrains bench = Benches.withShafts(4);
        // Mesh 0 waits for shaft 1; meshes 1 and 2 could both tell shaft 2 at first.
        Benches.pair(bench, 1, 10, 3, 30, 0);
        Benches.pair(bench, 0, 10, 2, 20, 1);
        Benches.pair(bench, 0, 10, 2, 40, 2);
        Benches.pair(bench, 0, 10, 1, 10, 3);
        Benches.pair(bench, 2, 10, 3, 10, 4);
        bench.drive(0, 12);
        Check.same("mesh 1 comes before mesh 2", Benches.speedOf(bench, 2), "-6/1");
        Check.same("mesh 3 tells", Benches.speedOf(bench, 1), "-12/1");
        Check.same("then 0, before 4", Benches.speedOf(bench, 3), "4/1");
        Check.same("2 and 4 are broken", bench.broken(false), 4 + 16);
    }

    private static void speedsBySets() {
        GearTrains bench = Benches.withShafts(6);
        bench.addPlanets(0, 1, 2, 20, 20);
        bench.drive(0, 4);
        bench.hold(1, true);
        Check.same("carrier", Benches.speedOf(bench, 2), "1/1");
        bench.hold(1, false);
        Check.same("one is not enough", bench.isTold(2), false);
        bench.hold(2, true);
        Check.same("ring", Benches.speedOf(bench, 1), "-4/3");
        bench.drive(1, 5);
        Check.same("sun", Benches.speedOf(bench, 0), "-15/1");
        bench.addPlanets(0, 1, 3, 8, 8);
        Check.same("a set after a set", Benches.speedOf(bench, 3), "0/1");
        bench.addPlanets(4, 3, 2, 10, 10);
        Check.same("all stand still", Benches.speedOf(bench, 4), "0/1");
        bench.addPlanets(0, 1, 4, 10, 20);
        Check.same("set 3 comes too late", bench.broken(true), 8);
        Check.same("one is free", bench.free(), 1);

        GearTrains order = Benches.withShafts(4);
        order.drive(0, 12);
        order.hold(1, true);
        order.addPlanets(0, 1, 2, 20, 20);
        order.addPlanets(0, 1, 2, 20, 10);
        Benches.pair(order, 2, 10, 3, 10, 0);
        order.addPlanets(2, 3, 0, 8, 8);
        Check.same("set 0 comes before set 1", Benches.speedOf(order, 2), "3/1");
        Check.same("then the mesh before set 2", Benches.speedOf(order, 3), "-3/1");
        Check.same("1 and 2 are broken", order.broken(true), 6);
    }

    private static void speedsLeftAside() {
        GearTrains bench = Benches.withShafts(4);
        Benches.pair(bench, 0, 199, 1, 197, 0);
        Benches.pair(bench, 1, 193, 2, 191, 1);
        Benches.pair(bench, 1, 8, 2, 16, 2);
        bench.drive(0, 997);
        Check.same("mesh 1 is left aside, 2 tells", Benches.speedOf(bench, 2), "198403/394");
        Check.same("and 1 is broken", bench.broken(false), 2);
        bench.unmesh();
        Check.same("left aside: free", bench.isTold(2), false);
        Check.same("what is not told is not broken", bench.broken(false), 0);
        bench.addPlanets(1, 3, 2, 97, 89);
        bench.hold(3, true);
        Check.same("a set left aside", bench.isTold(2), false);
        bench.addPlanets(3, 1, 2, 8, 8);
        Check.same("the next set tells", Benches.speedOf(bench, 2), "-595209/788");
        Check.same("the first one is broken", bench.broken(true), 1);
        Check.same("mesh 1 too", bench.broken(false), 2);
        bench.drive(0, 197);
        Check.same("not aside any more", Benches.speedOf(bench, 2), "38407/191");
        firstOnesLeftAside();
    }

    private static void firstOnesLeftAside() {
        GearTrains bench = Benches.withShafts(4);
        Benches.pair(bench, 1, 191, 0, 193, 0);
        bench.drive(2, 997);
        Benches.pair(bench, 2, 199, 0, 197, 1);
        Check.same("mesh 0 is left aside, the first gear's shaft free", bench.isTold(1), false);
        Check.same("so it is not broken", bench.broken(false), 0);
        bench.drive(2, 197);
        Check.same("mesh 0 is not aside any more", Benches.speedOf(bench, 1), "38407/191");
        bench.drive(2, 997);
        bench.addPlanets(1, 3, 0, 97, 89);
        bench.hold(3, true);
        Check.same("set 0 is left aside, the sun's shaft free", bench.isTold(1), false);
        Check.same("so it is not broken", bench.broken(true), 0);
        bench.unmesh();
        bench.unmesh();
        bench.drive(0, 97);
        Check.same("set 0 is not aside any more", Benches.speedOf(bench, 1), "372/1");
    }

    private static void speedAtTheLimit() {
        GearTrains bench = Benches.withShafts(4);
        Benches.pair(bench, 0, 125, 1, 8, 0);
        Benches.pair(bench, 1, 128, 2, 8, 1);
        Benches.pair(bench, 2, 100, 3, 25, 2);
        bench.drive(0, 1000);
        Check.same("250000", Benches.speedOf(bench, 2), "250000/1");
        Check.same("1000000 is told", Benches.speedOf(bench, 3), "-1000000/1");
        bench.drive(0, -1000);
        Check.same("without its sign", Benches.speedOf(bench, 3), "1000000/1");
        bench.drive(3, 1);
        Check.same("4000 below", Benches.speedOf(bench, 0), "-1/1000");
        bench.drive(0, 993);
        Check.same("993000", Benches.speedOf(bench, 3), "-993000/1");

        GearTrains over = Benches.withShafts(4);
        Benches.pair(over, 0, 125, 1, 8, 0);
        Benches.pair(over, 1, 128, 2, 8, 1);
        Benches.pair(over, 2, 97, 3, 24, 2);
        over.drive(0, 990);
        Check.same("247500", Benches.speedOf(over, 2), "247500/1");
        Check.same("1000312.5 is too great", over.isTold(3), false);
        over.drive(0, -990);
        Check.same("below 0 too", over.isTold(3), false);
        over.drive(0, 984);
        Check.same("994250", Benches.speedOf(over, 3), "-994250/1");
        overTheLimitByOne();
        underTheLimit();
    }

    private static void overTheLimitByOne() {
        GearTrains bench = Benches.withShafts(5);
        Benches.pair(bench, 0, 178, 1, 8, 0);
        Benches.pair(bench, 1, 166, 2, 8, 1);
        Benches.pair(bench, 2, 40, 3, 53, 2);
        bench.addPlanets(4, 0, 3, 8, 100);
        bench.drive(0, -106);
        Check.same("the carrier", Benches.speedOf(bench, 3), "36935/1");
        Check.same("27 * 36935 + 26 * 106 = 1000001 is too great", bench.isTold(4), false);
        bench.drive(0, 106);
        Check.same("below 0 too", bench.isTold(4), false);
        bench.drive(0, 0);
        Check.same("0 is not", Benches.speedOf(bench, 4), "0/1");
    }

    private static void underTheLimit() {
        GearTrains bench = Benches.withShafts(5);
        Benches.pair(bench, 0, 8, 1, 125, 0);
        Benches.pair(bench, 1, 8, 2, 128, 1);
        Benches.pair(bench, 2, 9, 3, 125, 2);
        Benches.pair(bench, 3, 9, 4, 32, 3);
        bench.drive(0, 1);
        Check.same("250 below", Benches.speedOf(bench, 2), "1/250");
        Check.same("31250 below", Benches.speedOf(bench, 3), "-9/31250");
        Check.same("1000000 below is told", Benches.speedOf(bench, 4), "81/1000000");
        bench.unmesh();
        int gear = bench.addGear(4, 33, 1, 3, false);
        bench.mesh(6, gear);
        Check.same("343750 below", Benches.speedOf(bench, 4), "27/343750");
        bench.unmesh();
        gear = bench.addGear(4, 100, 1, 3, false);
        bench.mesh(6, gear);
        Check.same("3125000 below is too great", bench.isTold(4), false);
    }

    private static void stage() {
        GearTrains bench = Benches.chain(4);
        Check.same("not told", bench.stage(0), -1);
        bench.drive(1, 5);
        Check.same("the driver", bench.stage(1), 0);
        Check.same("one side", bench.stage(0), 1);
        Check.same("other side", bench.stage(2), 1);
        Check.same("two meshes away", bench.stage(3), 2);
        bench.hold(3, true);
        Check.same("held", bench.stage(3), 0);
        Check.same("mesh 1 comes before mesh 2", bench.stage(2), 1);
        int[] noShaft = {-1, 4, MIN, MAX};
        for (int shaft : noShaft) {
            Check.refused(bench, "IOB", "stage " + shaft, () -> bench.stage(shaft));
        }
    }

    private static void stageBySets() {
        GearTrains bench = Benches.chain(3);
        bench.addShaft(0, 0);
        bench.addShaft(0, 0);
        bench.addPlanets(0, 2, 3, 20, 20);
        bench.drive(0, 8);
        Check.same("1 more than the greater one", bench.stage(3), 3);
        bench.addPlanets(4, 3, 0, 20, 20);
        Check.same("the next one", bench.stage(4), 4);
        bench.hold(3, true);
        Check.same("held in a set", bench.stage(3), 0);
        Check.same("of 0 and 0", bench.stage(4), 1);
        bench.hold(3, false);
        bench.addPlanets(4, 1, 0, 20, 20);
        Check.same("set 1 tells after set 0", bench.stage(4), 4);
    }

    private static void ratio() {
        GearTrains bench = Benches.chain(4);
        Check.refused(bench, "ISE", "ratio of free ones", () -> bench.ratio(0, 1));
        bench.drive(0, 6);
        Check.same("ratio", bench.ratio(0, 1), -2.0);
        Check.same("ratio turned", bench.ratio(3, 2), -0.5);
        Check.same("ratio to itself", bench.ratio(2, 2), 1.0);
        bench.unmesh();
        Check.refused(bench, "ISE", "first is free", () -> bench.ratio(3, 0));
        Check.refused(bench, "ISE", "second is free", () -> bench.ratio(0, 3));
        bench.hold(3, true);
        Check.same("0 by 6", bench.ratio(3, 0), 0.0);
        Check.same("0 by -3", bench.ratio(3, 1), -0.0);
        Check.refused(bench, "ISE", "by 0", () -> bench.ratio(0, 3));
        Check.refused(bench, "ISE", "0 by 0", () -> bench.ratio(3, 3));
        int[] noShaft = {-1, 4, MIN, MAX};
        for (int shaft : noShaft) {
            Check.refused(bench, "IOB", "ratio a " + shaft, () -> bench.ratio(shaft, 0));
            Check.refused(bench, "IOB", "ratio b " + shaft, () -> bench.ratio(0, shaft));
            Check.refused(bench, "IOB", "ratio both " + shaft, () -> bench.ratio(shaft, 3));
        }
        GearTrains thirds = Benches.withShafts(3);
        Benches.pair(thirds, 0, 10, 1, 30, 0);
        Benches.pair(thirds, 0, 10, 2, 49, 1);
        thirds.drive(0, 1);
        Check.same("both as doubles, then the quotient", thirds.ratio(1, 2),
                (-1.0 / 3.0) / (-10.0 / 49.0));
    }

    private static void brokenMeshes() {
        GearTrains bench = Benches.withShafts(3);
        Benches.pair(bench, 0, 10, 1, 20, 0);
        Benches.pair(bench, 1, 10, 2, 20, 1);
        Benches.pair(bench, 2, 20, 0, 10, 2);
        Check.same("nothing told", bench.broken(false), 0);
        bench.drive(0, 8);
        Check.same("the circle does not close", bench.broken(false), 4);
        Check.same("no sets", bench.broken(true), 0);
        bench.drive(0, 0);
        Check.same("it stands", bench.broken(false), 0);
        bench.drive(0, 8);
        bench.hold(1, true);
        bench.hold(2, true);
        Check.same("held against the driver", bench.broken(false), 1 + 4);
        bench.unmesh();
        Check.same("the last one is gone", bench.broken(false), 1);
    }

    private static void brokenSets() {
        GearTrains bench = Benches.withShafts(4);
        bench.addPlanets(0, 1, 2, 20, 20);
        bench.addPlanets(0, 1, 2, 20, 10);
        bench.addPlanets(0, 1, 3, 20, 10);
        bench.addPlanets(0, 2, 3, 20, 10);
        Check.same("nothing told", bench.broken(true), 0);
        bench.drive(0, 12);
        Check.same("not all told", bench.broken(true), 0);
        bench.hold(1, true);
        Check.same("sets 1 and 3", bench.broken(true), 2 + 8);
        Check.same("no meshes", bench.broken(false), 0);
        bench.hold(2, true);
        bench.hold(3, true);
        Check.same("all held", bench.broken(true), 15);
        bench.drive(0, 0);
        Check.same("all stand", bench.broken(true), 0);
        // Speeds with the greatest denominators: their product is far beyond a long.
        GearTrains fine = Benches.withShafts(6);
        Benches.pair(fine, 0, 8, 1, 199, 0);
        Benches.pair(fine, 1, 8, 3, 197, 1);
        Benches.pair(fine, 0, 8, 2, 193, 2);
        Benches.pair(fine, 2, 8, 4, 191, 3);
        Benches.pair(fine, 0, 8, 5, 181, 4);
        fine.drive(0, 1);
        fine.addPlanets(3, 4, 5, 97, 89);
        Check.same("a fine difference", fine.broken(true), 1);
    }

    private static void free() {
        GearTrains bench = Benches.chain(4);
        Check.same("all", bench.free(), 4);
        bench.hold(3, true);
        Check.same("all stand by the held one", bench.free(), 0);
        bench.unmesh();
        Check.same("three are cut off", bench.free(), 3);
        bench.drive(0, 1);
        Check.same("none", bench.free(), 0);
        bench.addShaft(0, 0);
        Check.same("a new one", bench.free(), 1);
    }

    private static void torque() {
        GearTrains bench = Benches.chain(4);
        Check.refused(bench, "ISE", "no driver", () -> bench.torque(0, 5));
        bench.hold(3, true);
        Check.refused(bench, "ISE", "no driver, but told", () -> bench.torque(3, 5));
        bench.hold(3, false);
        bench.drive(0, 7);
        Check.same("at the driver", bench.torque(0, 10000), 10000L);
        Check.same("stage 1", bench.torque(1, 10000), -19600L);
        Check.same("stage 2", bench.torque(2, 10000), 4 * 9604L);
        Check.same("stage 3, cut", bench.torque(3, 9999), -8 * 9410L);
        Check.same("cut at each stage", bench.torque(2, 75), 4 * 71L);
        Check.same("nothing left", bench.torque(1, 1), 0L);
        bench.drive(3, -7);
        Check.same("cut towards 0", bench.torque(2, 11), -5L);
        Check.same("cut towards 0, above", bench.torque(1, 11), 2L);
        int[] noShaft = {-1, 4, MIN, MAX};
        for (int shaft : noShaft) {
            Check.refused(bench, "IOB", "torque at " + shaft, () -> bench.torque(shaft, 0));
        }
        int[] wrong = {0, 10001, -1, MIN, MAX};
        for (int torque : wrong) {
            Check.refused(bench, "IAE", "torque of " + torque, () -> bench.torque(0, torque));
        }
        bench.unmesh();
        Check.refused(bench, "ISE", "not told", () -> bench.torque(0, 5));
        Check.refused(bench, "IAE", "not told, wrong", () -> bench.torque(0, 0));
        bench.hold(0, true);
        Check.refused(bench, "ISE", "held", () -> bench.torque(0, 5));
        bench.drive(3, 0);
        Check.refused(bench, "ISE", "the driver stands", () -> bench.torque(3, 5));
    }

    // ---- promises 19 to 23: the plane

    private static void distance() {
        GearTrains bench = Benches.withShafts(2);
        bench.addGear(0, 200, 10, 0, false);
        bench.addGear(1, 200, 10, 0, false);
        bench.addGear(1, 8, 10, 0, false);
        bench.addGear(0, 200, 10, 0, true);
        bench.addGear(1, 9, 10, 0, true);
        bench.addGear(0, 8, 10, 0, false);
        bench.mesh(0, 1);
        bench.mesh(2, 3);
        bench.mesh(4, 5);
        bench.mesh(5, 2);
        Check.same("the sum", bench.distance(0), 4000);
        Check.same("the difference", bench.distance(1), 1920);
        Check.same("the difference, ring first", bench.distance(2), 10);
        Check.same("small ones", bench.distance(3), 160);
        int[] noMesh = {-1, 4, MIN, MAX};
        for (int mesh : noMesh) {
            Check.refused(bench, "IOB", "distance " + mesh, () -> bench.distance(mesh));
        }
        bench.unmesh();
        Check.refused(bench, "IOB", "the one taken away", () -> bench.distance(3));
        Check.refused(bench, "IOB", "the gear's number", () -> bench.distance(4));
    }

    private static void misfits() {
        GearTrains bench = new GearTrains();
        bench.addShaft(-10, 20);
        bench.addShaft(20, 60);
        Benches.pair(bench, 0, 20, 1, 30, 0);
        Check.same("30, 40: 50", bench.misfits(), 0);
        Benches.pair(bench, 0, 20, 1, 31, 1);
        Benches.pair(bench, 0, 19, 1, 30, 2);
        Check.same("too near and too far", bench.misfits(), 2 + 4);
        bench.mesh(bench.addGear(0, 20, 2, 3, false), bench.addGear(1, 45, 2, 3, true));
        Check.same("a ring fits", bench.misfits(), 2 + 4);
        Check.same("move", bench.move(1, -10, 69), 981);
        Check.same("other ones fit now", bench.misfits(), 1 + 2 + 8);
        bench.move(1, -10, 20);
        Check.same("on one place", bench.misfits(), 15);
        bench.unmesh();
        Check.same("the last is gone", bench.misfits(), 7);
    }

    private static void collisions() {
        GearTrains bench = new GearTrains();
        bench.addShaft(0, 0);
        bench.addShaft(32, 24);
        bench.addGear(0, 18, 1, 0, false);
        bench.addGear(1, 18, 1, 0, false);
        Check.same("40 is not less than 40", bench.collisions(), 0);
        bench.move(1, 32, 23);
        Check.same("but less than that is", bench.collisions(), 1);
        bench.addGear(0, 18, 1, 0, false);
        Check.same("not on the same shaft", bench.collisions(), 2);
        bench.addGear(1, 18, 1, 1, false);
        Check.same("not in another layer", bench.collisions(), 2);
        bench.mesh(1, 0);
        Check.same("not of the same mesh", bench.collisions(), 1);
        bench.mesh(1, 2);
        Check.same("all meshed", bench.collisions(), 0);
        bench.unmesh();
        bench.unmesh();
        Check.same("none meshed", bench.collisions(), 2);
        bench.move(1, 0, 0);
        Check.same("shafts on one place", bench.collisions(), 2);

        GearTrains rings = new GearTrains();
        rings.addShaft(0, 0);
        rings.addShaft(78, 0);
        rings.addGear(0, 10, 3, 4, true);
        rings.addGear(1, 13, 2, 4, false);
        Check.same("3 * 16 and 2 * 15: 78", rings.collisions(), 0);
        rings.move(1, -77, 0);
        Check.same("77", rings.collisions(), 1);
        rings.addShaft(1000, 1000);
        rings.addGear(2, 200, 10, 4, true);
        Check.same("the greatest one reaches both", rings.collisions(), 3);
    }

    private static void suggest() {
        GearTrains bench = new GearTrains();
        Check.same("22 / 7", bench.suggest(22, 7, 8, 120), 44014);
        Check.same("smallest sum of the same ratio", bench.suggest(2, 1, 8, 120), 16008);
        Check.same("1 / 2", bench.suggest(1, 2, 8, 120), 8016);
        Check.same("one pair alone", bench.suggest(3, 1, 20, 20), 20020);
        Check.same("the greatest ratio", bench.suggest(10000, 1, 8, 120), 120008);
        Check.same("the smallest ratio", bench.suggest(1, 10000, 8, 120), 8120);
        Check.same("pi", bench.suggest(355, 113, 8, 113), 44014);
        Check.same("not in lowest terms", bench.suggest(200, 100, 8, 120), 16008);
        Check.same("10 / 11 is far below, 10 / 10 near", bench.suggest(219, 220, 10, 11), 10010);
        // 8 / 8 and 9 / 8 are as far from 17 / 16: the sums are 16 and 17.
        Check.same("both as near", bench.suggest(17, 16, 8, 9), 8008);
        // 9 / 8 and 10 / 8 are as far from 19 / 16: the sums are 17 and 18.
        Check.same("both as near, again", bench.suggest(19, 16, 8, 10), 9008);
        // 8 / 10 and 8 / 9 are as far from 38 / 45: the sum of the greater one is smaller.
        Check.same("both as near, below 1", bench.suggest(38, 45, 8, 10), 8009);
        Check.same("nearer counts more than the sum", bench.suggest(9, 10, 8, 10), 9010);
        Check.same("1000 a, plus b", bench.suggest(100, 99, 99, 100), 100099);
        int[] wrong = {0, -1, 10001, MIN, MAX};
        for (int x : wrong) {
            Check.refused(bench, "IAE", "p " + x, () -> bench.suggest(x, 1, 8, 9));
            Check.refused(bench, "IAE", "q " + x, () -> bench.suggest(1, x, 8, 9));
        }
        Check.refused(bench, "IAE", "least 7", () -> bench.suggest(1, 1, 7, 9));
        Check.refused(bench, "IAE", "least", () -> bench.suggest(1, 1, MIN, 9));
        Check.refused(bench, "IAE", "greatest 121", () -> bench.suggest(1, 1, 8, 121));
        Check.refused(bench, "IAE", "greatest", () -> bench.suggest(1, 1, 8, MAX));
        Check.refused(bench, "IAE", "turned", () -> bench.suggest(1, 1, 10, 9));
        Check.refused(bench, "IAE", "both too great", () -> bench.suggest(1, 1, 121, 121));
        allSuggestions(bench);
    }

    // Many ratios, in and out of the range: all pairs are looked at for each of them.
    private static void allSuggestions(GearTrains bench) {
        Model model = new Model();
        for (int p = 1; p <= 18; p++) {
            for (int q = 1; q <= 18; q++) {
                Check.same("suggest " + p + " / " + q, bench.suggest(p, q, 8, 25),
                        model.suggest(p, q, 8, 25));
            }
        }
    }

    private static void digest() {
        GearTrains bench = Benches.withShafts(3);
        Benches.pair(bench, 0, 10, 1, 20, 0);
        Benches.pair(bench, 0, 10, 1, 30, 1);
        bench.addShaft(-7, 9);
        bench.addPlanets(0, 1, 2, 20, 20);
        bench.drive(0, 5);
        bench.hold(2, true);
        Check.same("digest", bench.digest(), Benches.mix(4, 0, 0, 0, 0, 5, 1, 100, 0, 0, 1, -5, 2,
                200, 0, 1, 0, 0, 1, -7, 9, 0, -1, 0, 4, 2, 1, 2, 1, 3));
        bench.hold(2, false);
        Check.same("digest, by a set", bench.digest(), Benches.mix(4, 0, 0, 0, 0, 5, 1,
                100, 0, 0, 1, -5, 2, 200, 0, 0, 2, -5, 8, -7, 9, 0, -1, 0, 4, 2, 1, 2, 0, 3));
        Check.same("digest again", bench.digest(), bench.digest());
    }
}
