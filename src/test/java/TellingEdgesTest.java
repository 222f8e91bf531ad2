/**
 * The sentences of the terms on speeds that name a boundary: the equations with the fewest and the
 * most teeth, what is left aside and what is not, and the order of the telling.
 */
public final class TellingEdgesTest {
    public static void main(String[] args) {
        lowestTerms();
        speedZero();
        outerTeeth();
        ringTeeth();
        setTeeth();
        greatestNumeratorByMesh();
        greatestDenominatorByMesh();
        greatestNumeratorBySet();
        greatestDenominatorBySet();
        asideForNext();
        asideAnew();
        driverBeforeHeld();
        smallestMeshFirst();
        smallestSetFirst();
        meshBeforeSet();
        justOneTold();
        justTwoTold();
        allStepsTaken();
        untilNoneIsLeft();
        Check.end();
    }

    // ---- fractions

    private static void lowestTerms() {
        Check.says("Speeds are fractions in lowest terms, with a denominator greater than 0");
        Check.same("whole, below 0", Benches.told(1, 8, 12, 8), "-12/1");
        Check.same("a half, above 0", Benches.told(1, -12, 9, 8), "27/2");
        Check.same("nothing in common", Benches.told(1, 7, 8, 9), "-56/9");
        Check.same("all in common", Benches.told(1, 9, 200, 200), "-9/1");
        Check.same("1 over 25", Benches.told(1, 1, 8, 200), "-1/25");
        Check.same("a half in between", Benches.told(2, -6, 9, 12, 8, 12), "-3/1");
        GearTrains bench = Benches.withShafts(3);
        bench.addPlanets(0, 1, 2, 8, 8);
        bench.hold(1, true);
        bench.drive(0, -6);
        Check.same("by a set, below 0", Benches.speedOf(bench, 2), "-3/2");
        bench.drive(0, 8);
        Check.same("by a set, whole", Benches.speedOf(bench, 2), "2/1");
        bench = Benches.train(1, 8, 9, 8, 11);
        bench.addPlanets(1, 2, 9, 8, 8);
        Check.same("by a set, of -8 / 9 and 64 / 99", Benches.speedOf(bench, 9), "26/99");
        bench.addPlanets(7, 1, 2, 8, 8);
        Check.same("and its sun", Benches.speedOf(bench, 7), "520/99");
    }

    private static void speedZero() {
        Check.says("The speed 0 is 0 / 1");
        Check.same("the driver's", Benches.told(0, 0, 8, 200), "0/1");
        Check.same("by a mesh", Benches.told(1, 0, 8, 199), "0/1");
        Check.same("by two meshes", Benches.told(2, 0, 8, 199, 197, 9), "0/1");
        GearTrains bench = Benches.train(6, 10, 30);
        bench.addPlanets(0, 1, 2, 8, 8);
        Check.same("by a set, 6 * 8 - 2 * 24", Benches.speedOf(bench, 2), "0/1");
        bench.hold(1, true);
        Check.same("a held one", Benches.speedOf(bench, 1), "0/1");
        bench.drive(0, 0);
        Check.same("by a set of 0 and 0", Benches.speedOf(bench, 2), "0/1");
        bench.hold(1, false);
        bench.drive(1, 0);
        Check.same("from the second gear", Benches.speedOf(bench, 0), "0/1");
    }

    // ---- the equations

    private static void outerTeeth() {
        Check.says("v * a = -(w * b), if both are outer ones");
        int[] teeth = {8, 9, 199, 200};
        for (int a : teeth) {
            for (int b : teeth) {
                GearTrains bench = Benches.train(0, a, b);
                for (int v : new int[] {-1000, -1, 1, 1000}) {
                    String what = v + ", " + a + " to " + b;
                    bench.drive(0, v);
                    Check.same(what, Benches.speedOf(bench, 1), fraction(-v * a, b));
                    bench.drive(1, v);
                    Check.same(what + ", back", Benches.speedOf(bench, 0), fraction(-v * b, a));
                }
            }
        }
    }

    private static void ringTeeth() {
        Check.says("v * a = w * b, if one is a ring");
        int[][] teeth = {{9, 8}, {200, 8}, {200, 199}};
        for (int[] pair : teeth) {
            GearTrains bench = Benches.withShafts(3);
            bench.addGear(0, pair[0], 1, 0, true);
            bench.addGear(1, pair[1], 1, 0, false);
            bench.addGear(2, pair[1], 1, 0, false);
            bench.mesh(0, 1);
            bench.mesh(2, 0);
            for (int v : new int[] {-1000, -1, 1, 1000}) {
                String what = v + ", a ring of " + pair[0] + " to " + pair[1];
                String due = fraction(v * pair[0], pair[1]);
                bench.drive(0, v);
                Check.same(what, Benches.speedOf(bench, 1), due);
                Check.same(what + ", named second", Benches.speedOf(bench, 2), due);
                bench.drive(1, v);
                String back = fraction(v * pair[1], pair[0]);
                Check.same(what + ", back", Benches.speedOf(bench, 0), back);
                bench.drive(2, v);
                Check.same(what + ", back, second", Benches.speedOf(bench, 0), back);
            }
        }
    }

    private static String fraction(int over, int under) {
        int common = java.math.BigInteger.valueOf(over).gcd(
                java.math.BigInteger.valueOf(under)).intValue();
        return over / common + "/" + under / common;
    }

    private static void setTeeth() {
        Check.says("(S - C) * s + (R - C) * r = 0, and the ring has r = s + 2 * p teeth");
        int[] teeth = {8, 100};
        for (int s : teeth) {
            for (int p : teeth) {
                int r = s + 2 * p;
                GearTrains bench = Benches.withShafts(3);
                bench.addPlanets(0, 1, 2, s, p);
                String what = "s " + s + ", p " + p;
                setSpeed(bench, what + ", ring", 2, 0, r, 1, -s);
                setSpeed(bench, what + ", carrier", 1, 0, s + r, 2, s);
                setSpeed(bench, what + ", carrier by ring", 0, 1, s + r, 2, r);
                setSpeed(bench, what + ", sun", 1, 2, s, 0, s + r);
                setSpeed(bench, what + ", sun by ring", 2, 1, s, 0, -r);
                setSpeed(bench, what + ", ring by carrier", 0, 2, r, 1, s + r);
            }
        }
    }

    /** One is held, another drives with a speed: so the third one's speed is due. */
    private static void setSpeed(GearTrains bench, String what, int held, int driver, int speed,
            int third, int due) {
        bench.drive(driver, speed);
        bench.hold(held, true);
        Check.same(what, Benches.speedOf(bench, third), due + "/1");
        bench.hold(held, false);
    }

    // ---- left aside: greater than 1000000, without its sign

    private static void greatestNumeratorByMesh() {
        Check.says("Left aside, if the numerator (without its sign) is greater than 1000000: "
                + "by a mesh");
        Check.same("1000000", Benches.told(3, -1000, 125, 8, 128, 8, 100, 25), "1000000/1");
        Check.same("-1000000", Benches.told(3, 1000, 125, 8, 128, 8, 100, 25), "-1000000/1");
        Check.same("1000000 / 81", Benches.told(2, 1000, 125, 9, 8, 9), "1000000/81");
        Check.same("-1000000 / 81", Benches.told(2, -1000, 125, 9, 8, 9), "-1000000/81");
        // 1000004 = 212 * 53 * 89 is the next one that gears can bring about.
        Check.same("before it", Benches.told(1, 212, 53, 9, 89, 9), "-11236/9");
        Check.same("1000004 / 81", Benches.told(2, 212, 53, 9, 89, 9), "free");
        Check.same("-1000004 / 81", Benches.told(2, -212, 53, 9, 89, 9), "free");
        Check.same("far beyond", Benches.told(3, 1000, 200, 9, 200, 9, 200, 9), "free");
        Check.same("back, 1000000 / 81", toldBack(1000, 9, 125, 9, 8), "1000000/81");
        Check.same("back, -1000000 / 81", toldBack(-1000, 9, 125, 9, 8), "-1000000/81");
        Check.same("back, 1000004 / 81", toldBack(212, 9, 53, 9, 89), "free");
        Check.same("back, -1000004 / 81", toldBack(-212, 9, 53, 9, 89), "free");
        Check.same("a ring, 1000000 / 81", toldByRing(1000, 8, 9, 125, 9), "1000000/81");
        Check.same("a ring, 1000004 / 81", toldByRing(212, 53, 9, 89, 9), "free");
    }

    /** The speed of shaft 0 in a train of three shafts that shaft 2 drives. */
    private static String toldBack(int speed, int... teeth) {
        GearTrains bench = Benches.train(0, teeth);
        bench.drive(2, speed);
        return Benches.toldIn(bench, 0);
    }

    /** A train whose second mesh is of a ring on shaft 1; the driver turns the other way. */
    private static String toldByRing(int speed, int a, int b, int ring, int inner) {
        GearTrains bench = Benches.train(-speed, a, b);
        bench.addGear(1, ring, 1, 5, true);
        bench.addGear(2, inner, 1, 5, false);
        bench.mesh(3, 2);
        return Benches.toldIn(bench, 2);
    }

    private static void greatestDenominatorByMesh() {
        Check.says("Left aside, if the denominator is greater than 1000000: by a mesh");
        Check.same("1000000", Benches.told(3, -1, 9, 100, 9, 100, 9, 100), "729/1000000");
        Check.same("1000000, below 0", Benches.told(3, 1, 9, 100, 9, 100, 9, 100), "-729/1000000");
        // 1000004 = 106 * 106 * 89 is the next one that gears can bring about.
        Check.same("before it", Benches.told(2, 1, 9, 106, 9, 106, 9, 89), "81/11236");
        Check.same("1000004", Benches.told(3, -1, 9, 106, 9, 106, 9, 89), "free");
        Check.same("1000004, below 0", Benches.told(3, 1, 9, 106, 9, 106, 9, 89), "free");
        Check.same("far beyond", Benches.told(4, 1, 9, 200, 9, 200, 9, 200, 9, 200), "free");
        GearTrains bench = Benches.train(0, 100, 9, 100, 9, 100, 9);
        bench.drive(3, 1);
        Check.same("back, 1000000", Benches.toldIn(bench, 0), "-729/1000000");
        bench = Benches.train(0, 89, 9, 106, 9, 106, 9);
        bench.drive(3, 1);
        Check.same("back, 1000004", Benches.toldIn(bench, 0), "free");
    }

    /**
     * The speed of shaft 9, the third one of a planet set: of a train, with shaft 8 held, and with
     * these three shafts as sun, ring and carrier.
     */
    private static String bySet(int sun, int ring, int carrier, int s, int p, int speed,
            int... teeth) {
        GearTrains bench = Benches.train(speed, teeth);
        bench.hold(8, true);
        bench.addPlanets(sun, ring, carrier, s, p);
        return Benches.toldIn(bench, 9);
    }

    private static void greatestNumeratorBySet() {
        Check.says("Left aside, if the numerator (without its sign) is greater than 1000000: "
                + "by a set");
        int[] sun = {125, 8, 128, 8};
        Check.same("sun", bySet(9, 8, 2, 8, 8, 1000, sun), "1000000/1");
        Check.same("sun, below 0", bySet(9, 8, 2, 8, 8, -1000, sun), "-1000000/1");
        int[] nearly = {53, 9, 89, 9};
        Check.same("known, 250001", Benches.told(2, 53, nearly), "250001/81");
        Check.same("sun, 1000004 / 81", bySet(9, 8, 2, 8, 8, 53, nearly), "free");
        Check.same("sun, -1000004 / 81", bySet(9, 8, 2, 8, 8, -53, nearly), "free");
        // 27 * 36935 + 26 * 106 = 1000001
        int[] justOver = {178, 8, 166, 8, 40, 53};
        Check.same("known, 36935", Benches.told(3, -106, justOver), "36935/1");
        Check.same("sun, 1000001", bySet(9, 0, 3, 8, 100, -106, justOver), "free");
        Check.same("sun, -1000001", bySet(9, 0, 3, 8, 100, 106, justOver), "free");
        int[] ring = {125, 8, 192, 8, 16, 8};
        Check.same("ring", bySet(8, 9, 3, 8, 8, -1000, ring), "1000000/1");
        Check.same("ring, below 0", bySet(8, 9, 3, 8, 8, 1000, ring), "-1000000/1");
        Check.same("ring, 1000004 / 243", bySet(8, 9, 2, 8, 8, 53, nearly), "free");
        Check.same("ring, -1000004 / 243", bySet(8, 9, 2, 8, 8, -53, nearly), "free");
        int[] carrier = {190, 94, 82, 55};
        Check.same("carrier", bySet(2, 0, 9, 8, 100, 200, carrier), "1000000/4653");
        Check.same("carrier, below 0", bySet(2, 0, 9, 8, 100, -200, carrier), "-1000000/4653");
        int[] more = {82, 100, 175, 47};
        Check.same("carrier, 1000001 / 1269", bySet(2, 0, 9, 100, 8, 404, more), "free");
        Check.same("carrier, -1000001 / 1269", bySet(2, 0, 9, 100, 8, -404, more), "free");
    }

    private static void greatestDenominatorBySet() {
        Check.says("Left aside, if the denominator is greater than 1000000: by a set");
        int[] carrier = {8, 125, 8, 128, 8, 125, 8, 128, 25, 100};
        Check.same("carrier", bySet(5, 8, 9, 100, 100, -1, carrier), "1/1000000");
        Check.same("carrier, below 0", bySet(5, 8, 9, 100, 100, 1, carrier), "-1/1000000");
        Check.same("carrier, 1000004", bySet(2, 8, 9, 18, 71, 1, 9, 106, 9, 106), "free");
        Check.same("carrier, 1000004, below 0", bySet(2, 8, 9, 18, 71, -1, 9, 106, 9, 106), "free");
        int[] sun = {9, 125, 9, 160};
        Check.same("sun", bySet(9, 8, 2, 100, 9, 1, sun), "8829/1000000");
        Check.same("sun, below 0", bySet(9, 8, 2, 100, 9, -1, sun), "-8829/1000000");
        int[] more = {9, 106, 9, 106, 9, 18};
        Check.same("known, 22472 below", Benches.told(3, -1, more), "81/22472");
        Check.same("sun, 1000004", bySet(9, 8, 3, 89, 10, -1, more), "free");
        Check.same("sun, 1000004, below 0", bySet(9, 8, 3, 89, 10, 1, more), "free");
        int[] ring = {9, 125, 9, 125, 9, 32};
        Check.same("ring", bySet(8, 9, 3, 100, 50, -1, ring), "2187/1000000");
        Check.same("ring, below 0", bySet(8, 9, 3, 100, 50, 1, ring), "-2187/1000000");
        Check.same("ring, 1000004", bySet(8, 9, 3, 18, 80, -1, more), "free");
        Check.same("ring, 1000004, below 0", bySet(8, 9, 3, 18, 80, 1, more), "free");
    }

    private static void asideForNext() {
        Check.says("The mesh with the smallest number which is not left aside tells");
        GearTrains bench = Benches.train(212, 53, 9, 89, 9);
        Check.same("mesh 1 is left aside", Benches.toldIn(bench, 2), "free");
        Check.same("and not broken", bench.broken(false), 0);
        Benches.pair(bench, 1, 9, 2, 9, 5);
        Check.same("mesh 2 tells", Benches.toldIn(bench, 2), "11236/9");
        Check.same("mesh 1 is broken", bench.broken(false), 2);
        Check.says("The planet set with the smallest number which is not left aside tells");
        bench = Benches.train(53, 53, 9, 89, 9);
        bench.hold(8, true);
        bench.addPlanets(9, 8, 2, 8, 8);
        Check.same("set 0 is left aside", Benches.toldIn(bench, 9), "free");
        Check.same("and not broken", bench.broken(true), 0);
        bench.addPlanets(9, 8, 2, 100, 8);
        Check.same("set 1 tells", Benches.toldIn(bench, 9), "500002/75");
        Check.same("set 0 is broken", bench.broken(true), 1);
    }

    private static void asideAnew() {
        Check.says("Left aside from then on, not before: the next telling begins anew");
        GearTrains bench = Benches.train(212, 53, 9, 89, 9);
        bench.hold(8, true);
        bench.addPlanets(2, 8, 9, 8, 8);
        Check.same("mesh 1 is left aside", Benches.toldIn(bench, 2), "free");
        Check.same("the set waits", Benches.toldIn(bench, 9), "free");
        bench.drive(0, 81);
        Check.same("mesh 1 tells", Benches.toldIn(bench, 2), "4717/1");
        Check.same("so does the set", Benches.toldIn(bench, 9), "4717/4");
        bench.drive(0, 212);
        Check.same("left aside again", bench.free(), 7);
        // Mesh 0 and set 0 are the ones that are left aside here.
        bench = Benches.withShafts(10);
        Benches.pair(bench, 1, 89, 2, 9, 0);
        Benches.pair(bench, 0, 53, 1, 9, 1);
        bench.hold(8, true);
        bench.addPlanets(9, 8, 1, 97, 89);
        bench.drive(0, 997);
        Check.same("mesh 0 is left aside", Benches.toldIn(bench, 2), "free");
        Check.same("set 0 is left aside", Benches.toldIn(bench, 9), "free");
        bench.drive(0, 9);
        Check.same("mesh 0 tells", Benches.toldIn(bench, 2), "4717/9");
        Check.same("set 0 tells", Benches.toldIn(bench, 9), "-19716/97");
    }

    // ---- the order of the telling

    private static void driverBeforeHeld() {
        Check.says("First the driver has its speed, and held shafts have 0");
        GearTrains bench = Benches.train(5, 10, 20, 10, 20);
        bench.hold(1, true);
        bench.hold(2, true);
        Check.same("the driver", Benches.toldIn(bench, 0), "5/1");
        Check.same("a held one beside it", Benches.toldIn(bench, 1), "0/1");
        Check.same("a mesh of both is broken, of 0 and 0 not", bench.broken(false), 1);
        bench.hold(1, false);
        Check.same("between both: mesh 0 tells", Benches.toldIn(bench, 1), "-5/2");
        Check.same("and mesh 1 is broken", bench.broken(false), 2);
        bench.drive(0, 0);
        Check.same("a driver with 0", Benches.toldIn(bench, 1), "0/1");
        Check.same("breaks nothing", bench.broken(false), 0);
    }

    private static void smallestMeshFirst() {
        Check.says("The mesh with the smallest number tells");
        GearTrains bench = Benches.train(12, 10, 20);
        Benches.pair(bench, 1, 40, 0, 10, 4);
        Check.same("mesh 0, not mesh 1", Benches.toldIn(bench, 1), "-6/1");
        bench.unmesh();
        bench.unmesh();
        bench.mesh(2, 3);
        bench.mesh(0, 1);
        Check.same("which is the other one now", Benches.toldIn(bench, 1), "-3/1");
        Check.says("Then, again and again: after each telling the smallest number is looked for");
        // Mesh 0 waits until mesh 2 has told shaft 1; then it comes before mesh 3.
        bench = Benches.withShafts(3);
        Benches.pair(bench, 1, 10, 2, 20, 0);
        Benches.pair(bench, 2, 10, 1, 30, 1);
        Benches.pair(bench, 0, 10, 1, 10, 2);
        Benches.pair(bench, 0, 10, 2, 50, 3);
        bench.drive(0, 60);
        Check.same("mesh 2", Benches.toldIn(bench, 1), "-60/1");
        Check.same("mesh 0", Benches.toldIn(bench, 2), "30/1");
        Check.same("1 and 3 come too late", bench.broken(false), 2 + 8);
    }

    private static void smallestSetFirst() {
        Check.says("The planet set with the smallest number tells");
        int[][] teeth = {{8, 8}, {100, 100}, {8, 100}, {100, 8}};
        for (int first = 0; first < 4; first++) {
            GearTrains bench = Benches.withShafts(3);
            for (int k = 0; k < 4; k++) {
                int[] row = teeth[(first + k) % 4];
                bench.addPlanets(0, 1, 2, row[0], row[1]);
            }
            bench.drive(0, 54);
            bench.hold(1, true);
            String[] due = {"27/2", "27/2", "2/1", "25/1"};
            Check.same("set 0 of " + first, Benches.toldIn(bench, 2), due[first]);
            int[] broken = {4 + 8, 2 + 4, 2 + 4 + 8, 2 + 4 + 8};
            Check.same("the other ones are broken", bench.broken(true), broken[first]);
        }
    }

    private static void meshBeforeSet() {
        Check.says("If there is no such mesh, a planet set tells");
        GearTrains bench = Benches.withShafts(4);
        bench.addPlanets(0, 1, 2, 8, 8);
        bench.addPlanets(0, 1, 3, 8, 8);
        bench.hold(1, true);
        bench.drive(0, 8);
        Check.same("no mesh: set 0", Benches.toldIn(bench, 2), "2/1");
        Check.same("no mesh: set 1", Benches.toldIn(bench, 3), "2/1");
        Benches.pair(bench, 2, 10, 3, 20, 0);
        Check.same("set 0 first", Benches.toldIn(bench, 2), "2/1");
        Check.same("then the mesh, before set 1", Benches.toldIn(bench, 3), "-1/1");
        Check.same("which is broken", bench.broken(true), 2);
        Benches.pair(bench, 0, 10, 3, 10, 1);
        Check.same("a mesh at first", Benches.toldIn(bench, 3), "-8/1");
        Check.same("so mesh 0 tells too", Benches.toldIn(bench, 2), "16/1");
        Check.same("and both sets are broken", bench.broken(true), 3);
    }

    private static void justOneTold() {
        Check.says("The mesh of which just one shaft has a told speed tells the other one");
        GearTrains bench = Benches.train(5, 10, 20);
        Benches.pair(bench, 3, 10, 4, 20, 0);
        Check.same("none told, nothing to tell", Benches.toldIn(bench, 3), "free");
        Check.same("the other one neither", Benches.toldIn(bench, 4), "free");
        bench.hold(4, true);
        Check.same("the second one told", Benches.toldIn(bench, 3), "0/1");
        bench.hold(1, true);
        Check.same("both told: the first keeps it", Benches.toldIn(bench, 0), "5/1");
        Check.same("and the second", Benches.toldIn(bench, 1), "0/1");
    }

    private static void justTwoTold() {
        Check.says("The planet set of which just two have a told speed tells the third one");
        for (int third = 0; third < 3; third++) {
            int a = (third + 1) % 3;
            int b = (third + 2) % 3;
            GearTrains bench = Benches.withShafts(3);
            bench.addPlanets(0, 1, 2, 8, 8);
            Check.same("none told", bench.free(), 3);
            bench.hold(a, true);
            Check.same("one told", bench.free(), 2);
            bench.hold(b, true);
            Check.same("two told", Benches.toldIn(bench, third), "0/1");
            Check.same("its stage", bench.stage(third), 1);
            bench.drive(third, 5);
            Check.same("three told: they keep it", Benches.toldIn(bench, third), "5/1");
            Check.same("and the set is broken", bench.broken(true), 1);
        }
    }

    private static void allStepsTaken() {
        Check.says("It ends when there are none: 16 meshes and 4 sets, each with its turn");
        GearTrains bench = Benches.withShafts(4);
        bench.addGear(0, 199, 1, 1, false);
        bench.addGear(1, 197, 1, 1, false);
        bench.mesh(0, 1);
        int[] above = {193, 191, 181, 179, 173};
        int[] below = {8, 9, 11};
        for (int k = 0; k < 8; k++) {
            bench.addGear(k < 5 ? 1 : 2, k < 5 ? above[k] : below[k - 5], 1, 0, false);
        }
        for (int k = 0; k < 15; k++) {
            bench.mesh(2 + k / 3, 7 + k % 3);
        }
        for (int k = 0; k < 3; k++) {
            bench.addPlanets(2, 3, 1, 97, 89);
        }
        bench.hold(3, true);
        bench.drive(0, 997);
        Check.same("15 meshes and 3 sets are left aside", Benches.toldIn(bench, 2), "free");
        Check.same("nothing is broken", bench.broken(false) + bench.broken(true), 0);
        bench.addPlanets(2, 3, 1, 8, 8);
        Check.same("the last set tells", Benches.toldIn(bench, 2), "-793612/197");
        Check.same("meshes 1 to 15 are broken", bench.broken(false), 65534);
        Check.same("sets 0 to 2 are broken", bench.broken(true), 7);
    }

    private static void untilNoneIsLeft() {
        Check.says("It ends when there are none: through all shafts, to and fro");
        for (int driver = 0; driver < 10; driver++) {
            GearTrains bench = Benches.drivenRow(driver);
            bench.drive(driver, 3);
            Check.same("none is free", bench.free(), 0);
            for (int k = 0; k < 10; k++) {
                String due = (k - driver) % 2 == 0 ? "3/1" : "-3/1";
                Check.same(k + ", by " + driver, Benches.toldIn(bench, k), due);
            }
        }
    }
}
