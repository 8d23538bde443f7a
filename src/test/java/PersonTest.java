/** Promise 4: person. */
public final class PersonTest {
    public static void main(String[] args) {
        wrongBays();
        comesAndGoes();
        makesShuttingDoorOpen();
        makesItOpenWithoutPower();
        shutDoor();
        keepsEmptyBayFromShutting();
        Check.end();
    }

    private static void wrongBays() {
        ParkTower tower = new ParkTower();
        for (int bay : Scenes.NO_BAYS) {
            Check.illegalArgument("person into bay " + bay, () -> tower.person(bay, true));
            Check.illegalArgument("person out of bay " + bay, () -> tower.person(bay, false));
        }
    }

    private static void comesAndGoes() {
        ParkTower tower = new ParkTower();
        tower.person(1, true);
        tower.person(1, true);
        Check.same("in", tower.bay(1, 1), 1);
        Check.same("not in the other", tower.bay(0, 1), 0);
        Check.same("the open door stays so", tower.bay(1, 0), 2);
        tower.person(1, false);
        tower.person(1, false);
        Check.same("out", tower.bay(1, 1), 0);
    }

    private static void makesShuttingDoorOpen() {
        ParkTower tower = new ParkTower();
        Scenes.arriveSmall(tower, 0);
        tower.shut(0);
        tower.tick(3);
        tower.person(0, false);
        Check.same("nobody came in", tower.bay(0, 0), 3);
        tower.person(0, true);
        Check.same("opening", tower.bay(0, 0), 1);
        tower.tick(2);
        tower.person(0, true);
        tower.tick(1);
        Check.same("still opening", tower.bay(0, 0), 1);
        tower.tick(1);
        Check.same("open after 4 ticks", tower.bay(0, 0), 2);
        Check.same("no order", tower.look(0), 0);
        Check.same("its car stays", tower.bay(0, 2), 19);
    }

    private static void makesItOpenWithoutPower() {
        ParkTower tower = new ParkTower();
        tower.shut(0);
        tower.power(false);
        tower.person(0, true);
        Check.same("it begins to open", tower.bay(0, 0), 1);
        tower.tick(10);
        Check.same("but does not move", tower.bay(0, 0), 1);
        tower.power(true);
        tower.tick(4);
        Check.same("with power it does", tower.bay(0, 0), 2);
    }

    private static void shutDoor() {
        ParkTower tower = new ParkTower();
        tower.shut(0);
        tower.tick(4);
        Check.illegalState("through a shut door", () -> tower.person(0, true));
        Check.same("nobody is in", tower.bay(0, 1), 0);
        tower.person(0, false);
        tower.person(1, true);
        Check.same("the other bay", tower.bay(1, 1), 1);
    }

    private static void keepsEmptyBayFromShutting() {
        ParkTower tower = new ParkTower();
        int ticket = Scenes.store(tower);
        tower.person(0, true);
        tower.leave(ticket);
        tower.tick(30);
        Check.same("the door stays open", tower.bay(0, 0), 2);
        tower.person(0, false);
        tower.tick(1);
        Check.same("then it shuts", tower.bay(0, 0), 3);
        tower.person(0, true);
        tower.tick(20);
        Check.same("and opens again", tower.bay(0, 0), 2);
        Check.same("the order waits", tower.look(1), 0);
    }
}
