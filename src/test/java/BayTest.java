/** Promise 12: bay. */
public final class BayTest {
    public static void main(String[] args) {
        wrongNumbers();
        carsAndOrders();
        doors();
        Check.end();
    }

    private static void wrongNumbers() {
        ParkTower tower = new ParkTower();
        for (int bay : Scenes.NO_BAYS) {
            Check.illegalArgument("bay " + bay, () -> tower.bay(bay, 0));
        }
        for (int what : new int[] {-1, 5, Integer.MIN_VALUE, Integer.MAX_VALUE}) {
            Check.illegalArgument("what " + what, () -> tower.bay(0, what));
        }
    }

    private static void bay(ParkTower tower, int bay, int... due) {
        for (int what = 0; what < due.length; what++) {
            Check.same("bay " + bay + ", " + what, tower.bay(bay, what), due[what]);
        }
    }

    private static void carsAndOrders() {
        ParkTower tower = new ParkTower();
        Scenes.arriveSmall(tower, 1);
        tower.person(0, true);
        bay(tower, 0, 2, 1, 0, 0, 0);
        bay(tower, 1, 2, 0, 19, 0, 0);
        tower.shut(1);
        tower.tick(4);
        bay(tower, 1, 0, 0, 19, 0, 1);
        tower.tick(60);
        tower.person(0, false);
        tower.leave(19);
        bay(tower, 0, 2, 0, 0, 0, 1);
        tower.tick(6);
        bay(tower, 0, 0, 0, 0, 0, 1);
        tower.tick(60);
        bay(tower, 0, 2, 0, 19, 1, 0);
        bay(tower, 1, 2, 0, 0, 0, 0);
        tower.gone(0);
        bay(tower, 0, 2, 0, 0, 0, 0);
        Scenes.arriveSmall(tower, 0);
        bay(tower, 0, 2, 0, 27, 0, 0);
    }

    private static void doors() {
        ParkTower tower = new ParkTower();
        tower.shut(0);
        bay(tower, 0, 3);
        tower.person(0, true);
        bay(tower, 0, 1);
        tower.tick(4);
        bay(tower, 0, 2);
        tower.person(0, false);
        tower.shut(0);
        tower.tick(4);
        bay(tower, 0, 0);
        bay(tower, 1, 2);
    }
}
