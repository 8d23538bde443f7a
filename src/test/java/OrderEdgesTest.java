/** ORDERS: how many, in which order, and which of them can begin. */
public final class OrderEdgesTest {
    public static void main(String[] args) {
        Sentences.test(OrderEdgesTest.class);
    }

    @Sentence("ORDERS (at most 24")
    static void twentyFourFetches() {
        ParkTower tower = new ParkTower();
        int[] tickets = towerWithFetches(tower, 23);
        Check.same("the 24th", tower.leave(tickets[23]), 1);
        Check.same("24 orders", tower.look(0), 24);
        Check.illegalState("the 25th", () -> tower.leave(tickets[24]));
        Check.same("a car", Scenes.arriveSmall(tower, 0), -6);
        Check.same("24 orders still", tower.look(0), 24);
    }

    @Sentence("cars that came and are no order yet counted")
    static void carsInTheBaysAreCounted() {
        ParkTower tower = new ParkTower();
        int[] tickets = towerWithFetches(tower, 22);
        Scenes.arriveSmall(tower, 0);
        Check.same("the 24th", Scenes.arriveSmall(tower, 1) > 0 ? 1 : 0, 1);
        Check.same("22 orders", tower.look(0), 22);
        Check.illegalState("the 25th", () -> tower.leave(tickets[22]));
        tower.shut(0);
        tower.shut(1);
        tower.tick(2);
        Check.illegalState("while the doors are shutting", () -> tower.leave(tickets[22]));
        tower.tick(2);
        Check.same("24 orders", tower.look(0), 24);
        Check.illegalState("as orders they are not counted twice, but still", () -> tower.leave(tickets[22]));
    }

    @Sentence("cars that came and are no order yet counted")
    static void fetchedCarsAreNotCounted() {
        ParkTower tower = new ParkTower();
        int[] tickets = Scenes.storeMany(tower, 26);
        tower.leave(tickets[25]);
        tower.tick(60);
        Check.same("a fetched car", tower.bay(0, 3), 1);
        for (int i = 0; i < 23; i++) {
            tower.leave(tickets[i]);
        }
        tower.leave(tickets[23]);
        Check.same("24 orders beside it", tower.look(0), 24);
        Check.illegalState("the 25th", () -> tower.leave(tickets[24]));
    }

    @Sentence("there are 24 orders (as said)")
    static void roomWhenAnOrderHasEnded() {
        ParkTower tower = new ParkTower();
        int[] tickets = towerWithFetches(tower, 24);
        tower.tick(5);
        Check.same("one is being done", tower.look(1), tickets[0]);
        Check.illegalState("it is an order still", () -> tower.leave(tickets[24]));
        for (int i = 0; i < 100 && tower.look(0) == 24; i++) {
            tower.tick(1);
        }
        Check.same("it has ended", tower.look(0), 23);
        Check.same("room for one", tower.leave(tickets[24]), 0);
        Check.same("24 orders", tower.look(0), 24);
    }

    @Sentence("in the order in which they were made")
    static void firstMadeBeginsFirst() {
        ParkTower tower = new ParkTower();
        int[] tickets = Scenes.storeMany(tower, 2);
        tower.shut(0);
        tower.shut(1);
        tower.tick(4);
        tower.leave(tickets[1]);
        tower.leave(tickets[0]);
        tower.tick(1);
        Check.same("the first made", tower.look(1), tickets[1]);
    }

    @Sentence("are done one at a time")
    static void secondWaitsForTheFirst() {
        ParkTower tower = new ParkTower();
        int first = Scenes.arriveBig(tower, 0);
        int second = Scenes.arriveBig(tower, 1);
        tower.shut(0);
        tower.shut(1);
        tower.jam(3, true);
        tower.tick(500);
        Check.same("the first waits at its level", tower.look(1), first);
        Check.same("so the second does not begin", tower.bay(1, 2), second);
        tower.jam(3, false);
        tower.tick(6);
        Check.same("then it does", tower.look(1), second);
    }

    @Sentence("the first one begins (in that tick) that can: to STORE: always")
    static void storeBeginsThoughItsLevelIsJammed() {
        ParkTower tower = new ParkTower();
        Scenes.arriveSmall(tower, 0);
        for (int level = 0; level < 4; level++) {
            tower.jam(level, true);
        }
        tower.person(1, true);
        tower.shut(0);
        tower.tick(4);
        Check.same("it begins as it is made", tower.look(1), 19);
        tower.tick(1);
        Check.same("its car is taken", tower.bay(0, 2), 0);
    }

    @Sentence("At a tick at which none is being done, the first one begins (in that tick) that can")
    static void laterOneBeginsWhenTheFirstCannot() {
        ParkTower tower = new ParkTower();
        int low = Scenes.store(tower);
        int high = Scenes.storeBig(tower);
        tower.shut(0);
        tower.shut(1);
        tower.tick(4);
        tower.jam(0, true);
        tower.leave(low);
        tower.leave(high);
        tower.tick(1);
        Check.same("the second", tower.look(1), high);
        tower.jam(0, false);
        tower.tick(1);
        Check.same("which is not broken off", tower.look(1), high);
        tower.tick(14);
        Check.same("it ends", tower.bay(1, 2), high);
        tower.tick(1);
        Check.same("then the first", tower.look(1), low);
    }

    @Sentence("to FETCH: its car's level is not jammed")
    static void fetchWaitsWhileItsLevelIsJammed() {
        ParkTower tower = shutTowerWithACar();
        tower.jam(0, true);
        tower.leave(19);
        tower.tick(500);
        Check.same("jammed", tower.look(1), 0);
        tower.jam(1, true);
        tower.jam(0, false);
        tower.tick(1);
        Check.same("jammed no more, though another is", tower.look(1), 19);
    }

    @Sentence("there is a plan")
    static void fetchWaitsWhileThereIsNoPlan() {
        ParkTower tower = new ParkTower();
        Scenes.leaveOnlyLevel(tower, 0);
        int[] tickets = Scenes.storeMany(tower, 22);
        Scenes.arriveSmall(tower, 1);
        tower.leave(tickets[0]);
        tower.leave(tickets[1]);
        tower.tick(5);
        Check.same("no free cell: no plan", tower.plan(tickets[0], -1), -1);
        Check.same("behind a shut door", tower.bay(0, 0), 0);
        tower.tick(100);
        Check.same("the order waits", tower.look(1), 0);
        Check.same("beside the other", tower.look(0), 2);
        Check.same("its bay is empty", tower.bay(0, 2), 0);
        tower.shut(1);
        tower.tick(50);
        Check.same("the car is stored, one cell is free: it is fetched", tower.bay(0, 2), tickets[0]);
    }

    @Sentence("the bay has no car, its door is shut")
    static void fetchWaitsWhileItsBayHasACar() {
        ParkTower tower = new ParkTower();
        int stored = Scenes.store(tower);
        int came = Scenes.arriveBig(tower, 0);
        tower.leave(stored);
        tower.shut(0);
        tower.tick(4);
        Check.same("the later order begins", tower.look(1), came);
        tower.tick(60);
        Check.same("then the fetch", tower.bay(0, 2), stored);
    }

    @Sentence("its door is shut")
    static void fetchBeginsAsTheDoorIsShut() {
        ParkTower tower = new ParkTower();
        int ticket = Scenes.store(tower);
        tower.leave(ticket);
        tower.tick(4);
        Check.same("shutting", tower.bay(0, 0), 3);
        Check.same("not yet", tower.look(1), 0);
        tower.tick(1);
        Check.same("in the tick in which it is shut", tower.look(1), ticket);
        ParkTower other = shutTowerWithACar();
        other.leave(19);
        other.tick(1);
        Check.same("at once behind a shut door", other.look(1), 19);
    }

    @Sentence("and no person is in it")
    static void fetchWaitsForThePerson() {
        ParkTower tower = new ParkTower();
        int ticket = Scenes.store(tower);
        tower.leave(ticket);
        tower.tick(4);
        tower.person(0, true);
        tower.tick(100);
        Check.same("it waits", tower.look(1), 0);
        tower.person(0, false);
        tower.tick(5);
        Check.same("then it begins", tower.look(1), ticket);
    }

    @Sentence("The one that is done is no order any more when its last step ends.")
    static void orderEndsWithItsLastStep() {
        ParkTower tower = new ParkTower();
        Scenes.arriveSmall(tower, 0);
        tower.shut(0);
        tower.tick(9);
        Check.same("an order", tower.look(0), 1);
        Check.same("for its bay", tower.bay(0, 4), 1);
        tower.tick(1);
        Check.same("none", tower.look(0), 0);
        Check.same("none for its bay", tower.bay(0, 4), 0);
        Check.same("none is done", tower.look(1), 0);
        tower.leave(19);
        tower.tick(10);
        Check.same("a fetch", tower.bay(0, 4), 1);
        tower.tick(1);
        Check.same("its last step has ended", tower.bay(0, 4), 0);
    }

    /** A small car in cell 1, and both doors shut. */
    private static ParkTower shutTowerWithACar() {
        ParkTower tower = new ParkTower();
        Scenes.store(tower);
        tower.shut(0);
        tower.shut(1);
        tower.tick(4);
        return tower;
    }

    /** 26 stored cars, and the first of them asked for. */
    private static int[] towerWithFetches(ParkTower tower, int count) {
        int[] tickets = Scenes.storeMany(tower, 26);
        for (int i = 0; i < count; i++) {
            tower.leave(tickets[i]);
        }
        return tickets;
    }
}
