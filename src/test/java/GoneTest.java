/** Promise 5: gone. */
public final class GoneTest {
    public static void main(String[] args) {
        wrongBays();
        refusals();
        drivesOff();
        Check.end();
    }

    private static void wrongBays() {
        ParkTower tower = new ParkTower();
        for (int bay : Scenes.NO_BAYS) {
            Check.illegalArgument("gone from bay " + bay, () -> tower.gone(bay));
        }
    }

    private static void refusals() {
        ParkTower tower = new ParkTower();
        Check.illegalState("an empty bay", () -> tower.gone(0));
        Scenes.arriveSmall(tower, 0);
        Check.illegalState("a car that came", () -> tower.gone(0));
        Check.same("it stays", tower.bay(0, 2), 19);
    }

    private static void drivesOff() {
        ParkTower tower = new ParkTower();
        int ticket = Scenes.store(tower);
        tower.leave(ticket);
        tower.tick(11);
        Check.same("the fetched car is in the bay", tower.bay(0, 2), ticket);
        Check.same("its door is opening", tower.bay(0, 0), 1);
        Check.illegalState("the door is opening", () -> tower.gone(0));
        tower.tick(3);
        Check.illegalState("it is opening still", () -> tower.gone(0));
        tower.tick(1);
        tower.power(false);
        tower.person(0, true);
        Check.same("its ticket", tower.gone(0), ticket);
        Check.same("no car any more", tower.bay(0, 2), 0);
        Check.same("none that was fetched", tower.bay(0, 3), 0);
        Check.illegalState("twice", () -> tower.gone(0));
    }
}
