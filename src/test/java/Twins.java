/**
 * Two towers of the same past, one of which gets a call that is refused: from then on they must not be told
 * apart by what they show, tick by tick.
 */
final class Twins {
    private static final int TICKS = 70;

    private Twins() {
    }

    interface Scene {
        ParkTower make();
    }

    interface Call {
        int on(ParkTower tower);
    }

    static void refusesArgument(String what, Scene scene, Call call) {
        ParkTower tower = scene.make();
        Check.illegalArgument(what, () -> call.on(tower));
        sameAs(what, tower, scene.make());
    }

    static void refusesState(String what, Scene scene, Call call) {
        ParkTower tower = scene.make();
        Check.illegalState(what, () -> call.on(tower));
        sameAs(what, tower, scene.make());
    }

    static void refusesMove(String what, Scene scene, Call call) {
        ParkTower tower = scene.make();
        Check.outOfBounds(what, () -> call.on(tower));
        sameAs(what, tower, scene.make());
    }

    static void answers(String what, int due, Scene scene, Call call) {
        ParkTower tower = scene.make();
        Check.same(what, call.on(tower), due);
        sameAs(what, tower, scene.make());
    }

    private static void sameAs(String what, ParkTower tower, ParkTower twin) {
        for (int i = 0; i <= TICKS; i++) {
            if (!shown(tower).equals(shown(twin))) {
                Check.fail(what + ": the refused call has changed something, seen after " + i + " ticks");
                return;
            }
            Check.same(what + ": the time", tower.tick(1), twin.tick(1));
        }
        for (int bay = 0; bay < 2; bay++) {
            Check.same(what + ": a car behind it", Scenes.arriveSmall(tower, bay), Scenes.arriveSmall(twin, bay));
        }
        if (!shown(tower).equals(shown(twin))) {
            Check.fail(what + ": cars that come behind the refused call get other cells");
        }
    }

    private static String shown(ParkTower tower) {
        StringBuilder text = new StringBuilder();
        for (int cell = 0; cell < 96; cell++) {
            text.append(tower.cell(cell)).append(' ');
        }
        for (int what = 0; what < 5; what++) {
            text.append(tower.bay(0, what)).append(' ').append(tower.bay(1, what)).append(' ');
        }
        for (int what = 0; what < 7; what++) {
            text.append(tower.look(what)).append(' ');
        }
        return text.toString();
    }
}
