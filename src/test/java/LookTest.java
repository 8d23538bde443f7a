/** Promise 13: look. */
public final class LookTest {
    public static void main(String[] args) {
        wrongNumbers();
        duringAStore();
        duringAFetch();
        Check.end();
    }

    private static void wrongNumbers() {
        ParkTower tower = new ParkTower();
        for (int what : new int[] {-1, 7, Integer.MIN_VALUE, Integer.MAX_VALUE}) {
            Check.illegalArgument("look " + what, () -> tower.look(what));
        }
    }

    private static void look(ParkTower tower, int... due) {
        for (int what = 0; what < due.length; what++) {
            Check.same("look " + what, tower.look(what), due[what]);
        }
    }

    private static void duringAStore() {
        ParkTower tower = new ParkTower();
        Scenes.arriveBig(tower, 0);
        look(tower, 0, 0, 0, 0, 0, 0, 1);
        Scenes.arriveSmall(tower, 1);
        tower.shut(0);
        tower.shut(1);
        tower.tick(4);
        look(tower, 2, 19, 1, 1, 0, 0, 2);
        tower.tick(1);
        look(tower, 2, 19, 2, 9, 0, 0, 2);
        tower.tick(8);
        look(tower, 2, 19, 2, 1, 0, 0, 2);
        tower.tick(1);
        look(tower, 2, 19, 3, 5, 3, 0, 2);
        tower.tick(5);
        look(tower, 1, 0, 0, 0, 3, 1, 2);
        tower.tick(1);
        look(tower, 1, 27, 0, 8, 3, 1, 2);
    }

    private static void duringAFetch() {
        ParkTower tower = new ParkTower();
        Scenes.storeBig(tower);
        Scenes.store(tower);
        tower.leave(19);
        look(tower, 1, 0, 0, 0, 0, 2, 2);
        tower.tick(5);
        look(tower, 1, 19, 0, 8, 0, 2, 2);
        tower.tick(8);
        look(tower, 1, 19, 1, 5, 3, 2, 2);
        tower.tick(5);
        look(tower, 1, 19, 2, 9, 3, 1, 2);
        tower.tick(9);
        look(tower, 1, 19, 3, 2, 0, 1, 2);
        tower.tick(2);
        look(tower, 0, 0, 0, 0, 0, 1, 2);
    }
}
