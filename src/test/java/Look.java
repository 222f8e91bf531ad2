/** All that can be seen of a bench, as a text: benches that are alike have the same one. */
final class Look {
    private Look() {
    }

    // Some 250 calls, and the bench is not the same afterwards: it is of no more use.
    static String whole(GearTrains bench) {
        StringBuilder text = new StringBuilder();
        asked(bench, text);
        changed(bench, text);
        return text.toString();
    }

    private static void asked(GearTrains bench, StringBuilder text) {
        for (int what = 0; what < 4; what++) {
            tell(text, bench.count(what));
        }
        tell(text, bench.digest());
        tell(text, bench.broken(false));
        tell(text, bench.broken(true));
        tell(text, bench.free());
        tell(text, bench.misfits());
        tell(text, bench.collisions());
        for (int k = 0; k < bench.count(0); k++) {
            int shaft = k;
            tell(text, bench.isTold(k));
            tell(text, bench.stage(k));
            tell(text, Check.outcome(() -> bench.speed(shaft, false)));
            tell(text, Check.outcome(() -> bench.speed(shaft, true)));
            tell(text, Check.outcome(() -> bench.torque(shaft, 9999)));
            tell(text, Check.outcome(() -> bench.ratio(shaft, 0)));
        }
        for (int k = 0; k < bench.count(2); k++) {
            tell(text, bench.distance(k));
        }
        for (int k = 0; k < bench.count(3); k++) {
            tell(text, bench.planets(k, 12));
            tell(text, bench.planets(k, 7));
        }
    }

    // Which gears there are, who is held and who drives shows when something changes.
    private static void changed(GearTrains bench, StringBuilder text) {
        for (int left = bench.count(2); left > 0; left--) {
            tell(text, bench.unmesh());
            tell(text, bench.digest());
            tell(text, bench.collisions());
        }
        int gears = bench.count(1);
        for (int k = 0; k < gears; k++) {
            int gear = k;
            tell(text, Check.outcome(() -> bench.mesh(gear, (gear + 1) % gears)));
            tell(text, Check.outcome(() -> bench.mesh(0, gear)));
        }
        tell(text, bench.digest());
        for (int k = 0; k < bench.count(0); k++) {
            int shaft = k;
            tell(text, Check.outcome(() -> bench.hold(shaft, true)));
        }
        tell(text, Check.outcome(() -> bench.drive(0, 3)));
        tell(text, bench.digest());
        tell(text, Check.outcome(() -> bench.addShaft(5, 6)));
        tell(text, Check.outcome(() -> bench.addGear(0, 30, 1, 0, true)));
        tell(text, Check.outcome(() -> bench.addPlanets(0, 1, 2, 8, 8)));
        tell(text, bench.digest());
    }

    private static void tell(StringBuilder text, Object answer) {
        text.append(answer).append(' ');
    }
}
