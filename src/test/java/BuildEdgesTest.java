/**
 * The sentences of promises 1 to 9, and those of the terms on shafts, gears, meshes and planet
 * sets, that name a boundary: the last value that is taken, the first that is refused, the empty
 * and the full bench, and which exception comes first.
 */
public final class BuildEdgesTest {
    private static final int MIN = Benches.MIN;
    private static final int MAX = Benches.MAX;

    public static void main(String[] args) {
        newBench();
        emptyBench();
        fullBench();
        shaftsAtMost();
        shaftPlaces();
        shaftOrder();
        moveShaft();
        movePlaces();
        moveWay();
        gearsAtMost();
        gearShaft();
        gearTeeth();
        gearModule();
        gearLayer();
        gearOrder();
        meshGears();
        meshShafts();
        meshLayers();
        meshModules();
        meshRings();
        meshRingTeeth();
        meshOuterTeeth();
        meshTwice();
        meshesAtMost();
        meshOrder();
        unmeshLatest();
        unmeshTells();
        unmeshNone();
        setShafts();
        setDifferentShafts();
        setTeeth();
        setsAtMost();
        setOrder();
        planetsSet();
        planetsMost();
        planetsNumber();
        countWhat();
        Check.end();
    }

    // ---- the new, the empty and the full bench

    private static void newBench() {
        Check.says("Promise 1: Creates a bench without shafts; there is no driver");
        for (int what = 0; what < 4; what++) {
            Check.same("count " + what, new GearTrains().count(what), 0);
        }
        Check.same("no shaft is free", new GearTrains().free(), 0);
        Check.taken(() -> Benches.withShafts(1), -1, "no driver before", b -> b.drive(0, 1));
        Check.taken(() -> Benches.withShafts(1), false, "nothing told", b -> b.isTold(0));
        GearTrains other = Benches.full();
        Check.same("another bench is of its own", new GearTrains().count(0), 0);
        Check.same("and so is the one before", other.count(0), 10);
    }

    private static void emptyBench() {
        Check.says("A method that throws changes nothing: the bench without shafts");
        Check.Make none = GearTrains::new;
        Check.refused(none, "IOB", "move", b -> b.move(0, 0, 0));
        Check.refused(none, "IOB", "addGear", b -> b.addGear(0, 8, 1, 0, false));
        Check.refused(none, "IOB", "mesh", b -> b.mesh(0, 0));
        Check.refused(none, "ISE", "unmesh", b -> b.unmesh());
        Check.refused(none, "IOB", "addPlanets", b -> b.addPlanets(0, 1, 2, 8, 8));
        Check.refused(none, "IOB", "planets", b -> b.planets(0, 1));
        Check.refused(none, "IOB", "drive", b -> b.drive(0, 0));
        Check.refused(none, "IOB", "hold", b -> b.hold(0, true));
        Check.refused(none, "IOB", "isTold", b -> b.isTold(0));
        Check.refused(none, "IOB", "speed", b -> b.speed(0, true));
        Check.refused(none, "IOB", "stage", b -> b.stage(0));
        Check.refused(none, "IOB", "ratio", b -> b.ratio(0, 0));
        Check.refused(none, "IOB", "torque", b -> b.torque(0, 1));
        Check.refused(none, "IOB", "distance", b -> b.distance(0));
        Check.says("Each question that needs no shaft is answered without one");
        Check.taken(none, 0, "broken meshes", b -> b.broken(false));
        Check.taken(none, 0, "broken sets", b -> b.broken(true));
        Check.taken(none, 0, "free", b -> b.free());
        Check.taken(none, 0, "misfits", b -> b.misfits());
        Check.taken(none, 0, "collisions", b -> b.collisions());
        Check.taken(none, 8008, "suggest", b -> b.suggest(1, 1, 8, 120));
    }

    private static void fullBench() {
        Check.says("The full bench takes all that adds nothing");
        int[] counts = {10, 16, 16, 4};
        for (int what = 0; what < 4; what++) {
            int number = what;
            Check.taken(Benches::full, counts[what], "count", b -> b.count(number));
        }
        Check.taken(Benches::full, 10000, "move", b -> b.move(9, 1000, 0));
        Check.taken(Benches::full, 15, "unmesh", b -> b.unmesh());
        Check.taken(Benches::full, 0, "drive", b -> b.drive(9, 1));
        Check.taken(Benches::full, true, "hold", b -> b.hold(9, true));
        Check.taken(Benches::full, 12, "planets", b -> b.planets(0, 12));
        Check.taken(Benches::full, 41, "distance", b -> b.distance(0));
        Check.taken(Benches::full, 55, "distance of the last", b -> b.distance(15));
        Check.says("A method that throws changes nothing: the full bench");
        Check.refused(Benches::full, "ISE", "addShaft", b -> b.addShaft(0, 0));
        Check.refused(Benches::full, "ISE", "addGear", b -> b.addGear(0, 8, 1, 0, false));
        Check.refused(Benches::full, "ISE", "mesh", b -> b.mesh(0, 2));
        Check.refused(Benches::full, "ISE", "addPlanets", b -> b.addPlanets(0, 1, 2, 8, 8));
        Check.refused(Benches::full, "ISE", "hold the driver", b -> b.hold(0, true));
    }

    // ---- shafts

    private static void shaftsAtMost() {
        Check.says("There are at most 10 shafts, numbered from 0 in the order of their creation");
        GearTrains bench = new GearTrains();
        for (int k = 0; k < 10; k++) {
            Check.same("its number", bench.addShaft(7, 7), k);
            Check.same("how many", bench.count(0), k + 1);
        }
        Check.says("Promise 2: Throws IllegalStateException if there are 10 shafts");
        Check.taken(() -> Benches.withShafts(9), 9, "the 10th", b -> b.addShaft(0, 0));
        Check.refused(() -> Benches.withShafts(10), "ISE", "an 11th", b -> b.addShaft(0, 0));
    }

    private static void shaftPlaces() {
        Check.says("Promise 2: Throws IllegalArgumentException if x or y is not -1000 to 1000");
        int[] last = {-1000, 1000, -999, 999};
        for (int far : last) {
            Check.taken(GearTrains::new, 0, "x " + far, b -> b.addShaft(far, 0));
            Check.taken(GearTrains::new, 0, "y " + far, b -> b.addShaft(0, far));
            Check.taken(GearTrains::new, Benches.mix(1, far, -far, 0, -1, -1, 0, 0, 0, 0, 0, 0),
                    "it stands there", b -> digestAfter(b, b.addShaft(far, -far)));
        }
        for (int far : Benches.beyond(-1000, 1000)) {
            Check.refused(GearTrains::new, "IAE", "x " + far, b -> b.addShaft(far, 0));
            Check.refused(GearTrains::new, "IAE", "y " + far, b -> b.addShaft(0, far));
            Check.refused(GearTrains::new, "IAE", "both " + far, b -> b.addShaft(far, far));
        }
    }

    private static long digestAfter(GearTrains bench, int answer) {
        return answer < 0 ? -1 : bench.digest();
    }

    private static void shaftOrder() {
        Check.says("Promise 2: the exception named first: a wrong place before 10 shafts");
        Check.Make ten = () -> Benches.withShafts(10);
        for (int far : Benches.beyond(-1000, 1000)) {
            Check.refused(ten, "IAE", "an 11th at x " + far, b -> b.addShaft(far, 0));
            Check.refused(ten, "IAE", "an 11th at y " + far, b -> b.addShaft(0, far));
        }
    }

    private static void moveShaft() {
        Check.says("Promise 3: Throws IndexOutOfBoundsException if there is no such shaft");
        Check.taken(() -> Benches.withShafts(3), 0, "the first", b -> b.move(0, 0, 0));
        Check.taken(() -> Benches.withShafts(3), 0, "the last", b -> b.move(2, 200, 0));
        Check.taken(() -> Benches.withShafts(10), 0, "the 10th", b -> b.move(9, 900, 0));
        for (int shaft : Benches.outside(3)) {
            Check.refused(() -> Benches.withShafts(3), "IOB", "shaft " + shaft,
                    b -> b.move(shaft, 0, 0));
            Check.refused(() -> Benches.withShafts(3), "IOB", "the place wrong too, " + shaft,
                    b -> b.move(shaft, 1001, -1001));
        }
        Check.refused(() -> Benches.withShafts(10), "IOB", "the 11th", b -> b.move(10, 0, 0));
    }

    private static void movePlaces() {
        Check.says("Promise 3: Throws IllegalArgumentException if x or y is not -1000 to 1000");
        Check.Make one = () -> Benches.withShafts(1);
        int[] last = {-1000, 1000, -999, 999};
        for (int far : last) {
            Check.taken(one, far * far, "x " + far, b -> b.move(0, far, 0));
            Check.taken(one, far * far, "y " + far, b -> b.move(0, 0, far));
            Check.taken(one, Benches.mix(1, far, -far, 0, -1, -1, 0, 0, 0, 0, 0, 0),
                    "it stands there", b -> digestAfter(b, b.move(0, far, -far)));
        }
        for (int far : Benches.beyond(-1000, 1000)) {
            Check.refused(one, "IAE", "x " + far, b -> b.move(0, far, 0));
            Check.refused(one, "IAE", "y " + far, b -> b.move(0, 0, far));
            Check.refused(one, "IAE", "both " + far, b -> b.move(0, far, far));
        }
    }

    private static void moveWay() {
        Check.says("Promise 3: Returns the square of the distance from where it was");
        GearTrains bench = Benches.withShafts(1);
        Check.same("no way", bench.move(0, 0, 0), 0);
        Check.same("the least way", bench.move(0, 0, -1), 1);
        Check.same("into a corner", bench.move(0, -1000, 1000), 1000000 + 1001 * 1001);
        Check.same("the greatest way", bench.move(0, 1000, -1000), 8000000);
        Check.same("and back", bench.move(0, -1000, 1000), 8000000);
    }

    // ---- gears

    private static GearTrains withGears(int number) {
        GearTrains bench = Benches.withShafts(3);
        for (int k = 0; k < number; k++) {
            bench.addGear(k % 3, 20, 1, 0, k % 2 == 1);
        }
        return bench;
    }

    private static void gearsAtMost() {
        Check.says("There are at most 16 gears, numbered likewise");
        GearTrains bench = Benches.withShafts(2);
        for (int k = 0; k < 16; k++) {
            Check.same("its number", bench.addGear(k % 2, 20, 1, 0, k % 3 == 0), k);
            Check.same("how many", bench.count(1), k + 1);
        }
        Check.says("Promise 4: Throws IllegalStateException if there are 16 gears");
        Check.taken(() -> withGears(15), 15, "the 16th", b -> b.addGear(2, 8, 1, 0, true));
        Check.refused(() -> withGears(16), "ISE", "a 17th", b -> b.addGear(2, 8, 1, 0, true));
    }

    private static void gearShaft() {
        Check.says("Promise 4: Throws IndexOutOfBoundsException if there is no such shaft");
        Check.taken(() -> withGears(0), 0, "on the first", b -> b.addGear(0, 8, 1, 0, false));
        Check.taken(() -> withGears(0), 0, "on the last", b -> b.addGear(2, 8, 1, 0, false));
        for (int shaft : Benches.outside(3)) {
            Check.refused(() -> withGears(0), "IOB", "on " + shaft,
                    b -> b.addGear(shaft, 8, 1, 0, false));
        }
    }

    private static void gearTeeth() {
        Check.says("Promise 4: Throws IllegalArgumentException if teeth is not 8 to 200");
        Check.Make one = () -> Benches.withShafts(1);
        int[] last = {8, 9, 199, 200};
        for (int teeth : last) {
            Check.taken(one, 0, teeth + " teeth", b -> b.addGear(0, teeth, 1, 0, false));
            Check.taken(one, 0, "a ring's " + teeth, b -> b.addGear(0, teeth, 1, 0, true));
        }
        for (int teeth : Benches.beyond(8, 200)) {
            Check.refused(one, "IAE", teeth + " teeth", b -> b.addGear(0, teeth, 1, 0, false));
            Check.refused(one, "IAE", "a ring's " + teeth, b -> b.addGear(0, teeth, 1, 0, true));
        }
    }

    private static void gearModule() {
        Check.says("Promise 4: Throws IllegalArgumentException if module is not 1 to 10");
        Check.Make one = () -> Benches.withShafts(1);
        int[] last = {1, 2, 9, 10};
        for (int module : last) {
            Check.taken(one, 0, "module " + module, b -> b.addGear(0, 20, module, 0, false));
            Check.taken(one, 0, "a ring's " + module, b -> b.addGear(0, 20, module, 0, true));
        }
        for (int module : Benches.beyond(1, 10)) {
            Check.refused(one, "IAE", "module " + module, b -> b.addGear(0, 20, module, 0, false));
            Check.refused(one, "IAE", "a ring's " + module, b -> b.addGear(0, 20, module, 0, true));
        }
    }

    private static void gearLayer() {
        Check.says("Promise 4: Throws IllegalArgumentException if layer is not 0 to 5");
        Check.Make one = () -> Benches.withShafts(1);
        int[] last = {0, 1, 4, 5};
        for (int layer : last) {
            Check.taken(one, 0, "layer " + layer, b -> b.addGear(0, 20, 1, layer, false));
            Check.taken(one, 0, "a ring's " + layer, b -> b.addGear(0, 20, 1, layer, true));
        }
        for (int layer : Benches.beyond(0, 5)) {
            Check.refused(one, "IAE", "layer " + layer, b -> b.addGear(0, 20, 1, layer, false));
            Check.refused(one, "IAE", "a ring's " + layer, b -> b.addGear(0, 20, 1, layer, true));
        }
    }

    private static void gearOrder() {
        Check.says("Promise 4: the exception named first: no shaft, a wrong gear, 16 gears");
        Check.Make some = () -> withGears(5);
        Check.refused(some, "IOB", "no shaft, teeth", b -> b.addGear(3, 7, 1, 0, false));
        Check.refused(some, "IOB", "no shaft, module", b -> b.addGear(-1, 8, 11, 0, false));
        Check.refused(some, "IOB", "no shaft, layer", b -> b.addGear(3, 8, 1, 6, false));
        Check.Make all = () -> withGears(16);
        Check.refused(all, "IOB", "no shaft, 16", b -> b.addGear(3, 8, 1, 0, false));
        Check.refused(all, "IOB", "no shaft before 0, 16", b -> b.addGear(-1, 8, 1, 0, false));
        Check.refused(all, "IOB", "all of it", b -> b.addGear(3, 201, 0, -1, true));
        Check.refused(all, "IAE", "teeth, 16", b -> b.addGear(0, 7, 1, 0, false));
        Check.refused(all, "IAE", "more teeth, 16", b -> b.addGear(0, 201, 1, 0, false));
        Check.refused(all, "IAE", "module, 16", b -> b.addGear(0, 8, 0, 0, false));
        Check.refused(all, "IAE", "greater module, 16", b -> b.addGear(0, 8, 11, 0, false));
        Check.refused(all, "IAE", "layer, 16", b -> b.addGear(0, 8, 1, -1, false));
        Check.refused(all, "IAE", "higher layer, 16", b -> b.addGear(0, 8, 1, 6, false));
    }

    // ---- meshes

    /** Two shafts with a gear on each: teeth, module, layer, and 1 for a ring. */
    private static GearTrains two(int[] a, int[] b) {
        GearTrains bench = Benches.withShafts(2);
        bench.addGear(0, a[0], a[1], a[2], a[3] == 1);
        bench.addGear(1, b[0], b[1], b[2], b[3] == 1);
        return bench;
    }

    private static void meshable(String what, int[] first, int[] second) {
        Check.taken(() -> two(first, second), 0, what, b -> b.mesh(0, 1));
        Check.taken(() -> two(first, second), 0, what + ", turned", b -> b.mesh(1, 0));
    }

    private static void notMeshable(String what, int[] first, int[] second) {
        Check.refused(() -> two(first, second), "IAE", what, b -> b.mesh(0, 1));
        Check.refused(() -> two(first, second), "IAE", what + ", turned", b -> b.mesh(1, 0));
    }

    private static int[] gear(int teeth, int module, int layer, int ring) {
        return new int[] {teeth, module, layer, ring};
    }

    private static void meshGears() {
        Check.says("Promise 5: Throws IndexOutOfBoundsException if there is no such gear");
        Check.Make bench = () -> Benches.row();
        Check.taken(bench, 9, "the first and the last", b -> b.mesh(0, 9));
        Check.taken(bench, 9, "the last and the first", b -> b.mesh(9, 0));
        for (int gear : Benches.outside(10)) {
            Check.refused(bench, "IOB", "a is " + gear, b -> b.mesh(gear, 0));
            Check.refused(bench, "IOB", "b is " + gear, b -> b.mesh(0, gear));
            Check.refused(bench, "IOB", "both are " + gear, b -> b.mesh(gear, gear));
        }
        Check.refused(() -> Benches.withShafts(3), "IOB", "no gears", b -> b.mesh(0, 1));
        Check.refused(Benches::full, "IOB", "a 17th gear", b -> b.mesh(16, 0));
    }

    private static void meshShafts() {
        Check.says("A mesh is of two gears on different shafts");
        GearTrains bench = Benches.withShafts(2);
        bench.move(1, 0, 0);
        bench.addGear(0, 20, 1, 0, false);
        bench.addGear(0, 30, 1, 0, false);
        bench.addGear(1, 40, 1, 0, false);
        Check.refused(bench, "IAE", "the same shaft", () -> bench.mesh(0, 1));
        Check.refused(bench, "IAE", "the same shaft, turned", () -> bench.mesh(1, 0));
        Check.refused(bench, "IAE", "the same gear", () -> bench.mesh(2, 2));
        Check.same("different shafts on one place", bench.mesh(0, 2), 0);
        Check.same("the other gear too", bench.mesh(2, 1), 1);
    }

    private static void meshLayers() {
        Check.says("A mesh is of two gears in the same layer");
        for (int layer = 0; layer <= 5; layer++) {
            for (int other = 0; other <= 5; other++) {
                String what = "layers " + layer + " and " + other;
                if (layer == other) {
                    meshable(what, gear(20, 1, layer, 0), gear(30, 1, other, 1));
                } else {
                    notMeshable(what, gear(20, 1, layer, 0), gear(30, 1, other, 1));
                }
            }
        }
    }

    private static void meshModules() {
        Check.says("A mesh is of two gears with the same module");
        int[] modules = {1, 2, 9, 10};
        for (int module : modules) {
            for (int other : modules) {
                String what = "modules " + module + " and " + other;
                if (module == other) {
                    meshable(what, gear(20, module, 3, 0), gear(20, other, 3, 0));
                } else {
                    notMeshable(what, gear(20, module, 3, 0), gear(20, other, 3, 0));
                }
            }
        }
    }

    private static void meshRings() {
        Check.says("A mesh is of two gears, not both of them rings");
        notMeshable("two rings", gear(20, 1, 0, 1), gear(30, 1, 0, 1));
        notMeshable("two rings with as many teeth", gear(20, 1, 0, 1), gear(20, 1, 0, 1));
        meshable("two outer ones", gear(20, 1, 0, 0), gear(30, 1, 0, 0));
        meshable("a ring and an outer one", gear(30, 1, 0, 1), gear(20, 1, 0, 0));
    }

    private static void meshRingTeeth() {
        Check.says("If one is a ring, it has more teeth than the other one");
        meshable("one more, few", gear(9, 1, 0, 1), gear(8, 1, 0, 0));
        meshable("one more, many", gear(200, 1, 0, 1), gear(199, 1, 0, 0));
        meshable("many more", gear(200, 1, 0, 1), gear(8, 1, 0, 0));
        notMeshable("as many, few", gear(8, 1, 0, 1), gear(8, 1, 0, 0));
        notMeshable("as many, many", gear(200, 1, 0, 1), gear(200, 1, 0, 0));
        notMeshable("one less, few", gear(8, 1, 0, 1), gear(9, 1, 0, 0));
        notMeshable("one less, many", gear(199, 1, 0, 1), gear(200, 1, 0, 0));
        notMeshable("many less", gear(8, 1, 0, 1), gear(200, 1, 0, 0));
    }

    private static void meshOuterTeeth() {
        Check.says("Two outer ones mesh with any teeth");
        meshable("the fewest", gear(8, 1, 0, 0), gear(8, 1, 0, 0));
        meshable("the fewest and the most", gear(8, 1, 0, 0), gear(200, 1, 0, 0));
        meshable("the most", gear(200, 1, 0, 0), gear(200, 1, 0, 0));
    }

    private static void meshTwice() {
        Check.says("A mesh is not of the same two as another mesh");
        Check.refused(Benches::row, "IAE", "the first again", b -> b.mesh(0, 1));
        Check.refused(Benches::row, "IAE", "the first, turned", b -> b.mesh(1, 0));
        Check.refused(Benches::row, "IAE", "the latest again", b -> b.mesh(8, 9));
        Check.refused(Benches::row, "IAE", "the latest, turned", b -> b.mesh(9, 8));
        Check.taken(Benches::row, 9, "one of them with another", b -> b.mesh(0, 9));
        Check.taken(Benches::row, 8, "the latest, taken away before", b -> meshAnew(b, 9, 8));
        Check.taken(() -> Benches.chain(2), 1, "two others of the same shafts",
                b -> Benches.pair(b, 0, 10, 1, 20, 0));
    }

    private static int meshAnew(GearTrains bench, int a, int b) {
        bench.unmesh();
        return bench.mesh(a, b);
    }

    /** Gears 0, 2, 4, 6 on shaft 0 and 1, 3, 5, 7 on shaft 1: so many of their 16 pairs meshed. */
    private static GearTrains withMeshes(int number) {
        GearTrains bench = Benches.withShafts(3);
        for (int k = 0; k < 8; k++) {
            bench.addGear(k % 2, 20 + k, 1, 0, false);
        }
        bench.addGear(2, 20, 1, 0, false);
        for (int k = 0; k < number; k++) {
            bench.mesh(k / 4 * 2, k % 4 * 2 + 1);
        }
        return bench;
    }

    private static void meshesAtMost() {
        Check.says("There are at most 16 meshes, numbered likewise");
        for (int number = 0; number < 16; number++) {
            int k = number;
            Check.taken(() -> withMeshes(k), k, "its number", b -> b.mesh(0, 8));
            Check.taken(() -> withMeshes(k), k, "how many before", b -> b.count(2));
        }
        Check.says("Promise 5: Throws IllegalStateException if there are 16 meshes");
        Check.taken(() -> withMeshes(15), 15, "the 16th", b -> b.mesh(8, 6));
        Check.refused(() -> withMeshes(16), "ISE", "a 17th", b -> b.mesh(8, 6));
        Check.taken(() -> withMeshes(16), 15, "one taken away before", b -> meshAnew(b, 8, 6));
    }

    private static void meshOrder() {
        Check.says("Promise 5: the exception named first: no gear, not meshable, 16 meshes");
        Check.Make some = () -> withMeshes(3);
        Check.refused(some, "IOB", "no gear, twice the same", b -> b.mesh(9, 9));
        Check.refused(some, "IOB", "none before 0, twice the same", b -> b.mesh(-1, -1));
        Check.Make all = () -> withMeshes(16);
        for (int gear : Benches.outside(9)) {
            Check.refused(all, "IOB", "16, a " + gear, b -> b.mesh(gear, 8));
            Check.refused(all, "IOB", "16, b " + gear, b -> b.mesh(8, gear));
            Check.refused(all, "IOB", "16, both " + gear, b -> b.mesh(gear, gear));
        }
        Check.refused(all, "IAE", "16, the same gear", b -> b.mesh(8, 8));
        Check.refused(all, "IAE", "16, the same shaft", b -> b.mesh(0, 2));
        Check.refused(all, "IAE", "16, meshed already", b -> b.mesh(7, 6));
        Check.refused(() -> allMeshedBut(gear(20, 1, 1, 0)), "IAE", "16, another layer",
                b -> b.mesh(9, 0));
        Check.refused(() -> allMeshedBut(gear(20, 2, 0, 0)), "IAE", "16, another module",
                b -> b.mesh(0, 9));
        Check.refused(() -> allMeshedBut(gear(20, 1, 0, 1)), "IAE", "16, as many teeth as a ring",
                b -> b.mesh(9, 0));
    }

    /** All 16 meshes, and this gear besides, number 9. */
    private static GearTrains allMeshedBut(int[] row) {
        GearTrains bench = withMeshes(16);
        bench.addGear(2, row[0], row[1], row[2], row[3] == 1);
        return bench;
    }

    private static void unmeshLatest() {
        Check.says("Promise 6: Takes the latest mesh away. Returns how many are left");
        GearTrains bench = withMeshes(16);
        for (int left = 15; left >= 0; left--) {
            Check.same("how many are left", bench.unmesh(), left);
            Check.same("so says count", bench.count(2), left);
            int last = left;
            Check.same("the latest one went", Check.outcome(() -> bench.distance(last)), "IOB");
            String due = left == 0 ? "IOB" : "41";
            Check.same("the first one stays", Check.outcome(() -> bench.distance(0)), due);
        }
    }

    private static void unmeshTells() {
        Check.says("Promise 6: what the latest mesh told is free then");
        GearTrains bench = Benches.row();
        bench.drive(0, 5);
        for (int left = 8; left >= 0; left--) {
            bench.unmesh();
            Check.same("free with " + left, bench.free(), 9 - left);
            Check.same("the shaft of it", bench.isTold(left + 1), false);
            Check.same("the one before", bench.stage(left), left);
        }
    }

    private static void unmeshNone() {
        Check.says("Promise 6: Throws IllegalStateException if there is none");
        Check.taken(() -> withMeshes(1), 0, "the only one", b -> b.unmesh());
        Check.refused(GearTrains::new, "ISE", "without shafts", b -> b.unmesh());
        Check.refused(() -> withMeshes(0), "ISE", "without meshes", b -> b.unmesh());
        GearTrains bench = withMeshes(1);
        bench.unmesh();
        Check.refused(bench, "ISE", "after the only one", () -> bench.unmesh());
        Check.same("and there can be one again", bench.mesh(0, 1), 0);
    }

    // ---- planet sets

    private static GearTrains withSets(int number) {
        GearTrains bench = Benches.withShafts(4);
        for (int k = 0; k < number; k++) {
            bench.addPlanets(k, (k + 1) % 4, (k + 2) % 4, 20, 16);
        }
        return bench;
    }

    private static void setShafts() {
        Check.says("Promise 7: Throws IndexOutOfBoundsException if there is no such shaft");
        Check.taken(() -> withSets(0), 0, "first to last", b -> b.addPlanets(0, 1, 3, 8, 8));
        Check.taken(() -> withSets(0), 0, "last to first", b -> b.addPlanets(3, 1, 0, 8, 8));
        Check.taken(() -> withSets(0), 0, "last between", b -> b.addPlanets(1, 3, 0, 8, 8));
        for (int n : Benches.outside(4)) {
            Check.refused(() -> withSets(1), "IOB", "sun " + n, b -> b.addPlanets(n, 1, 2, 8, 8));
            Check.refused(() -> withSets(1), "IOB", "ring " + n, b -> b.addPlanets(0, n, 2, 8, 8));
            Check.refused(() -> withSets(1), "IOB", "carrier " + n,
                    b -> b.addPlanets(0, 1, n, 8, 8));
        }
        Check.refused(() -> Benches.withShafts(2), "IOB", "two shafts are too few",
                b -> b.addPlanets(0, 1, 2, 8, 8));
    }

    private static void setDifferentShafts() {
        Check.says("Promise 7: Throws IllegalArgumentException if two of the shafts are the same");
        for (int sun = 0; sun < 4; sun++) {
            for (int ring = 0; ring < 4; ring++) {
                for (int carrier = 0; carrier < 4; carrier++) {
                    String what = "shafts " + sun + ", " + ring + ", " + carrier;
                    int[] row = {sun, ring, carrier};
                    Check.Act act = b -> b.addPlanets(row[0], row[1], row[2], 8, 8);
                    if (sun == ring || sun == carrier || ring == carrier) {
                        Check.refused(() -> withSets(0), "IAE", what, act);
                    } else {
                        Check.taken(() -> withSets(0), 0, what, act);
                    }
                }
            }
        }
    }

    private static void setTeeth() {
        Check.says("Promise 7: Throws IllegalArgumentException if s or p is not 8 to 100");
        int[] last = {8, 9, 99, 100};
        for (int teeth : last) {
            Check.taken(() -> withSets(0), 0, "s " + teeth,
                    b -> b.addPlanets(0, 1, 2, teeth, 50));
            Check.taken(() -> withSets(0), 0, "p " + teeth,
                    b -> b.addPlanets(0, 1, 2, 50, teeth));
            Check.taken(() -> withSets(0), 0, "both " + teeth,
                    b -> b.addPlanets(0, 1, 2, teeth, teeth));
        }
        for (int teeth : Benches.beyond(8, 100)) {
            Check.refused(() -> withSets(0), "IAE", "s " + teeth,
                    b -> b.addPlanets(0, 1, 2, teeth, 50));
            Check.refused(() -> withSets(0), "IAE", "p " + teeth,
                    b -> b.addPlanets(0, 1, 2, 50, teeth));
            Check.refused(() -> withSets(0), "IAE", "both " + teeth,
                    b -> b.addPlanets(0, 1, 2, teeth, teeth));
        }
    }

    private static void setsAtMost() {
        Check.says("There are at most 4 planet sets, numbered likewise");
        for (int number = 0; number < 4; number++) {
            int k = number;
            Check.taken(() -> withSets(k), k, "its number", b -> b.addPlanets(1, 2, 3, 8, 8));
            Check.taken(() -> withSets(k), k, "how many before", b -> b.count(3));
        }
        Check.says("Promise 7: Throws IllegalStateException if there are 4 sets");
        Check.taken(() -> withSets(3), 3, "the 4th", b -> b.addPlanets(0, 1, 2, 20, 16));
        Check.refused(() -> withSets(4), "ISE", "a 5th", b -> b.addPlanets(0, 1, 2, 20, 16));
        Check.taken(() -> withSets(4), 4, "there are 4", b -> b.count(3));
    }

    private static void setOrder() {
        Check.says("Promise 7: the exception named first: no shaft, a wrong set, 4 sets");
        Check.Make some = () -> withSets(1);
        Check.refused(some, "IOB", "none, twice", b -> b.addPlanets(4, 4, 0, 8, 8));
        Check.refused(some, "IOB", "none, others twice", b -> b.addPlanets(0, 0, 4, 8, 8));
        Check.refused(some, "IOB", "none, s", b -> b.addPlanets(0, 1, -1, 7, 8));
        Check.refused(some, "IOB", "none, p", b -> b.addPlanets(-1, 1, 2, 8, 101));
        Check.Make all = () -> withSets(4);
        for (int n : Benches.outside(4)) {
            Check.refused(all, "IOB", "4, sun " + n, b -> b.addPlanets(n, 1, 2, 8, 8));
            Check.refused(all, "IOB", "4, ring " + n, b -> b.addPlanets(0, n, 2, 8, 8));
            Check.refused(all, "IOB", "4, carrier " + n, b -> b.addPlanets(0, 1, n, 8, 8));
            Check.refused(all, "IOB", "4, all wrong " + n, b -> b.addPlanets(n, n, n, n, n));
        }
        Check.refused(all, "IAE", "4, sun is ring", b -> b.addPlanets(1, 1, 2, 8, 8));
        Check.refused(all, "IAE", "4, sun is carrier", b -> b.addPlanets(1, 2, 1, 8, 8));
        Check.refused(all, "IAE", "4, ring is carrier", b -> b.addPlanets(2, 1, 1, 8, 8));
        Check.refused(all, "IAE", "4, s 7", b -> b.addPlanets(0, 1, 2, 7, 8));
        Check.refused(all, "IAE", "4, s 101", b -> b.addPlanets(0, 1, 2, 101, 8));
        Check.refused(all, "IAE", "4, p 7", b -> b.addPlanets(0, 1, 2, 8, 7));
        Check.refused(all, "IAE", "4, p 101", b -> b.addPlanets(0, 1, 2, 8, 101));
    }

    private static void planetsSet() {
        Check.says("Promise 8: Throws IndexOutOfBoundsException if there is no such set");
        Check.taken(() -> withSets(3), 12, "the first", b -> b.planets(0, 12));
        Check.taken(() -> withSets(3), 12, "the last", b -> b.planets(2, 12));
        Check.taken(() -> withSets(4), 12, "the 4th", b -> b.planets(3, 12));
        for (int set : Benches.outside(3)) {
            Check.refused(() -> withSets(3), "IOB", "set " + set, b -> b.planets(set, 12));
        }
        Check.refused(() -> withSets(0), "IOB", "no sets", b -> b.planets(0, 12));
        Check.refused(() -> withSets(4), "IOB", "a 5th", b -> b.planets(4, 12));
        Check.says("Promise 8: the exception named first: no such set before a wrong number");
        for (int most : Benches.beyond(1, 12)) {
            Check.refused(() -> withSets(1), "IOB", "up to " + most, b -> b.planets(1, most));
            Check.refused(() -> withSets(1), "IOB", "up to " + most, b -> b.planets(-1, most));
        }
    }

    private static void planetsMost() {
        Check.says("Promise 8: Throws IllegalArgumentException if most is not 1 to 12");
        Check.taken(() -> withSets(1), 1, "1", b -> b.planets(0, 1));
        Check.taken(() -> withSets(1), 2, "2", b -> b.planets(0, 2));
        Check.taken(() -> withSets(1), 9, "11", b -> b.planets(0, 11));
        Check.taken(() -> withSets(1), 12, "12", b -> b.planets(0, 12));
        for (int most : Benches.beyond(1, 12)) {
            Check.refused(() -> withSets(1), "IAE", "up to " + most, b -> b.planets(0, most));
        }
    }

    private static void planetsNumber() {
        Check.says("So many planets can be put in at equal angles, if s + r can be divided by "
                + "their number; the ring has r = s + 2 * p teeth");
        int[] edges = {8, 9, 50, 99, 100};
        for (int s : edges) {
            for (int p : edges) {
                planetsOf(s, p);
            }
        }
        for (int p = 8; p <= 100; p++) {
            planetsOf(11, p);
        }
    }

    private static void planetsOf(int s, int p) {
        GearTrains bench = Benches.withShafts(3);
        bench.addPlanets(0, 1, 2, s, p);
        int due = 0;
        for (int most = 1; most <= 12; most++) {
            due = (s + s + p + p) % most == 0 ? most : due;
            Check.same("s " + s + ", p " + p + ", up to " + most, bench.planets(0, most), due);
        }
    }

    private static void countWhat() {
        Check.says("Promise 9: Throws IndexOutOfBoundsException if what is not 0 to 3");
        Check.taken(() -> withMeshes(5), 3, "0", b -> b.count(0));
        Check.taken(() -> withMeshes(5), 9, "1", b -> b.count(1));
        Check.taken(() -> withMeshes(5), 5, "2", b -> b.count(2));
        Check.taken(() -> withSets(2), 2, "3", b -> b.count(3));
        for (int what : Benches.outside(4)) {
            Check.refused(() -> withMeshes(5), "IOB", "what " + what, b -> b.count(what));
            Check.refused(GearTrains::new, "IOB", "when new, " + what, b -> b.count(what));
            Check.refused(Benches::full, "IOB", "when full, " + what, b -> b.count(what));
        }
        int[] wild = {MIN, MIN + 1, MAX - 1, MAX};
        for (int what : wild) {
            Check.refused(GearTrains::new, "IOB", "far off, " + what, b -> b.count(what));
        }
    }
}
