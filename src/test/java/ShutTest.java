/** Promise 3: shut, and how a door moves. */
public final class ShutTest {
    public static void main(String[] args) {
        wrongBays();
        doorTakesFourTicks();
        refusals();
        emptyBay();
        ordersInTheOrderOfTheBays();
        Check.end();
    }

    private static void wrongBays() {
        ParkTower tower = new ParkTower();
        for (int bay : Scenes.NO_BAYS) {
            Check.illegalArgument("shut bay " + bay, () -> tower.shut(bay));
        }
        tower.power(false);
        Check.illegalArgument("no such bay, before no power", () -> tower.shut(2));
    }

    private static void doorTakesFourTicks() {
        ParkTower tower = new ParkTower();
        Scenes.arriveSmall(tower, 1);
        tower.shut(1);
        for (int i = 0; i < 4; i++) {
            Check.same("shutting at tick " + i, tower.bay(1, 0), 3);
            Check.same("no order yet at tick " + i, tower.bay(1, 4), 0);
            tower.tick(1);
        }
        Check.same("shut", tower.bay(1, 0), 0);
        Check.same("an order to store", tower.bay(1, 4), 1);
        Check.same("the other door stays open", tower.bay(0, 0), 2);
    }

    private static void refusals() {
        ParkTower tower = new ParkTower();
        int ticket = Scenes.store(tower);
        tower.person(0, true);
        Check.illegalState("a person is in the bay", () -> tower.shut(0));
        tower.person(0, false);
        tower.power(false);
        Check.illegalState("no power", () -> tower.shut(0));
        tower.power(true);
        tower.shut(0);
        Check.illegalState("it is shutting", () -> tower.shut(0));
        tower.person(0, true);
        tower.person(0, false);
        Check.illegalState("it is opening", () -> tower.shut(0));
        tower.tick(4);
        tower.shut(0);
        tower.tick(4);
        Check.illegalState("it is shut", () -> tower.shut(0));
        tower.leave(ticket);
        tower.tick(60);
        Check.same("a fetched car", tower.bay(0, 3), 1);
        Check.same("its door is open", tower.bay(0, 0), 2);
        Check.illegalState("a fetched car is in the bay", () -> tower.shut(0));
        tower.gone(0);
        tower.shut(0);
        Check.same("behind the fetched car", tower.bay(0, 0), 3);
    }

    private static void emptyBay() {
        ParkTower tower = new ParkTower();
        tower.shut(0);
        tower.tick(50);
        Check.same("an empty bay is shut", tower.bay(0, 0), 0);
        Check.same("and makes no order", tower.look(0), 0);
    }

    private static void ordersInTheOrderOfTheBays() {
        ParkTower tower = new ParkTower();
        int second = Scenes.arriveSmall(tower, 1);
        int first = Scenes.arriveSmall(tower, 0);
        tower.shut(1);
        tower.shut(0);
        tower.tick(4);
        Check.same("two orders", tower.look(0), 2);
        Check.same("bay 0 first", tower.look(1), first);
        tower.tick(8);
        Check.same("then bay 1", tower.look(1), second);
    }
}
