/** Promise 7: jam. */
public final class JamTest {
    public static void main(String[] args) {
        wrongLevels();
        stopsPutting();
        stopsMovesAndTaking();
        keepsFetchFromBeginning();
        Check.end();
    }

    private static void wrongLevels() {
        ParkTower tower = new ParkTower();
        for (int level : new int[] {-1, 4, Integer.MIN_VALUE, Integer.MAX_VALUE}) {
            Check.illegalArgument("jam level " + level, () -> tower.jam(level, true));
            Check.illegalArgument("free level " + level, () -> tower.jam(level, false));
        }
        tower.jam(2, false);
        tower.jam(2, true);
        tower.jam(2, true);
    }

    private static void stopsPutting() {
        ParkTower tower = new ParkTower();
        Scenes.arriveBig(tower, 0);
        tower.jam(3, true);
        tower.shut(0);
        tower.tick(60);
        Check.same("it begins, is taken and lifted", tower.look(2), 3);
        Check.same("and waits at the level", tower.look(3), 5);
        Check.same("the lift is there", tower.look(4), 3);
        tower.jam(2, true);
        tower.jam(3, false);
        tower.tick(5);
        Check.same("it is put", tower.cell(73), 19);
    }

    private static void stopsMovesAndTaking() {
        ParkTower tower = new ParkTower();
        int back = Scenes.storeBig(tower);
        Scenes.storeBig(tower);
        tower.leave(back);
        tower.tick(5);
        Check.same("the move has begun", tower.look(2), 1);
        Check.same("4 ticks and 6, one of them gone", tower.look(3), 9);
        tower.tick(3);
        tower.jam(3, true);
        tower.tick(100);
        Check.same("the move waits", tower.look(3), 6);
        tower.jam(3, false);
        tower.tick(7);
        Check.same("the car is being taken", tower.look(2), 2);
        Check.same("for 5 ticks", tower.look(3), 4);
        tower.jam(3, true);
        tower.tick(100);
        Check.same("taking waits", tower.look(3), 4);
        tower.jam(3, false);
        tower.tick(4);
        tower.jam(3, true);
        tower.tick(9);
        Check.same("the lift goes down from a jammed level", tower.look(4), 0);
    }

    private static void keepsFetchFromBeginning() {
        ParkTower tower = new ParkTower();
        int low = Scenes.store(tower);
        int high = Scenes.storeBig(tower);
        tower.jam(0, true);
        tower.leave(low);
        tower.leave(high);
        tower.tick(5);
        Check.same("the first that can begins", tower.look(1), high);
        tower.tick(100);
        Check.same("the first waits still", tower.look(0), 1);
        Check.same("its bay's door has shut", tower.bay(0, 0), 0);
        tower.jam(0, false);
        tower.tick(1);
        Check.same("it begins", tower.look(1), low);
    }
}
