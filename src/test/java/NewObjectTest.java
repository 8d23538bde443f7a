/** Promise 1: a new object. */
public final class NewObjectTest {
    public static void main(String[] args) {
        everythingIsEmpty();
        powerIsOn();
        objectsAreApart();
        Check.end();
    }

    private static void everythingIsEmpty() {
        ParkTower tower = new ParkTower();
        for (int cell = 0; cell < 96; cell++) {
            Check.same("cell " + cell + " of a new tower", tower.cell(cell), 0);
        }
        for (int bay = 0; bay < 2; bay++) {
            Check.same("door of a new tower", tower.bay(bay, 0), 2);
            for (int what = 1; what < 5; what++) {
                Check.same("bay " + bay + ", " + what + " of a new tower", tower.bay(bay, what), 0);
            }
        }
        for (int what = 0; what < 7; what++) {
            Check.same("look " + what + " of a new tower", tower.look(what), 0);
        }
    }

    private static void powerIsOn() {
        ParkTower tower = new ParkTower();
        Check.illegalState("power on, which it is", () -> tower.power(true));
        Check.same("the first car's ticket", Scenes.arriveSmall(tower, 0), 19);
        tower.shut(0);
        Check.same("the first ticks", tower.tick(4), 4);
        Check.same("no run at first: the order goes on at once", tower.look(3), 1);
    }

    private static void objectsAreApart() {
        ParkTower one = new ParkTower();
        Scenes.store(one);
        one.power(false);
        one.jam(0, true);
        ParkTower other = new ParkTower();
        Check.same("ticket of another tower", Scenes.arriveSmall(other, 0), 19);
        Check.same("cell of another tower", other.cell(1), -1);
    }
}
