/** Promise 9: tick, with how orders begin and their steps go on. */
public final class TickTest {
    public static void main(String[] args) {
        wrongNumbers();
        timeAddsUp();
        storeStepByStep();
        fetchStepByStep();
        fetchWithMoves();
        oneTickOrMany();
        nextOrderBeginsATickLater();
        laterOrderGoesFirst();
        fetchWaitsForTheCarInItsBay();
        ordersKeepTheirPlaces();
        fetchOfMovedCar();
        doorOpensAndShutsAtOnce();
        Check.end();
    }

    private static void wrongNumbers() {
        ParkTower tower = new ParkTower();
        for (int n : new int[] {0, -1, 501, Integer.MAX_VALUE, Integer.MIN_VALUE}) {
            Check.illegalArgument("tick " + n, () -> tower.tick(n));
        }
        Check.same("no time has gone", tower.tick(1), 1);
    }

    private static void timeAddsUp() {
        ParkTower tower = new ParkTower();
        Check.same("500 ticks", tower.tick(500), 500);
        Check.same("one more", tower.tick(1), 501);
        tower.power(false);
        Check.same("without power too", tower.tick(499), 1000);
    }

    private static void state(ParkTower tower, int ended, int left, int lift) {
        Check.same("steps ended", tower.look(2), ended);
        Check.same("ticks to go", tower.look(3), left);
        Check.same("the lift", tower.look(4), lift);
    }

    private static void storeStepByStep() {
        ParkTower tower = new ParkTower();
        Scenes.storeBig(tower);
        int ticket = tower.arrive(1, 400, 150, 2500);
        tower.shut(1);
        tower.tick(4);
        state(tower, 0, 8, 3);
        tower.tick(7);
        state(tower, 0, 1, 3);
        tower.tick(1);
        state(tower, 1, 2, 0);
        tower.tick(1);
        Check.same("still in the bay", tower.bay(1, 2), ticket);
        Check.same("its door is shut", tower.bay(1, 0), 0);
        tower.tick(1);
        state(tower, 2, 3, 0);
        Check.same("taken", tower.bay(1, 2), 0);
        Check.same("the door begins to open", tower.bay(1, 0), 1);
        tower.tick(3);
        state(tower, 3, 5, 1);
        Check.same("the door has not opened yet", tower.bay(1, 0), 1);
        tower.tick(1);
        Check.same("open after four ticks", tower.bay(1, 0), 2);
        tower.tick(3);
        state(tower, 3, 1, 1);
        Check.same("kept until the end", tower.cell(25), -1);
        tower.tick(1);
        Check.same("in the cell", tower.cell(25), ticket);
        Check.same("free in front", tower.cell(24), 0);
        Check.same("no order any more", tower.look(0), 0);
        state(tower, 0, 0, 1);
    }

    private static void fetchStepByStep() {
        ParkTower tower = new ParkTower();
        int ticket = Scenes.storeBig(tower);
        tower.leave(ticket);
        tower.tick(1);
        Check.same("the empty bay shuts by itself", tower.bay(0, 0), 3);
        tower.tick(3);
        Check.same("the order waits", tower.look(1), 0);
        tower.tick(1);
        Check.same("it begins as the door gets shut", tower.look(1), ticket);
        state(tower, 1, 4, 3);
        Check.same("still in the cell", tower.cell(73), ticket);
        tower.tick(4);
        state(tower, 2, 9, 3);
        Check.same("taken from the cell", tower.cell(73), 0);
        tower.tick(9);
        state(tower, 3, 2, 0);
        tower.tick(1);
        Check.same("not in the bay yet", tower.bay(0, 2), 0);
        tower.tick(1);
        Check.same("in the bay", tower.bay(0, 2), ticket);
        Check.same("fetched", tower.bay(0, 3), 1);
        Check.same("the door begins to open", tower.bay(0, 0), 1);
        state(tower, 0, 0, 0);
        tower.tick(4);
        Check.same("the door is open", tower.bay(0, 0), 2);
    }

    private static void fetchWithMoves() {
        ParkTower tower = new ParkTower();
        int[] all = Scenes.levelWithHiddenCell(tower);
        int wanted = all[2];
        Check.same("two moves", tower.plan(wanted, -1), 2);
        tower.leave(wanted);
        tower.tick(5);
        state(tower, 1, 8, 0);
        tower.tick(7);
        Check.same("not moved yet", tower.cell(1), 0);
        tower.tick(1);
        Check.same("moved behind", tower.cell(1), all[5]);
        Check.same("its cell is free", tower.cell(0), 0);
        state(tower, 2, 8, 0);
        tower.tick(8);
        Check.same("moved away", tower.cell(0), all[3]);
        state(tower, 3, 5, 0);
        tower.tick(5);
        Check.same("two free cells", tower.cell(12) + tower.cell(13), 0);
        state(tower, 5, 2, 0);
        tower.tick(2);
        Check.same("fetched", tower.bay(0, 2), wanted);
        ParkTower far = new ParkTower();
        int[] cars = Scenes.storeMany(far, 23);
        far.leave(cars[20]);
        far.tick(5);
        state(far, 1, 27, 0);
        far.tick(27);
        state(far, 2, 15, 0);
    }

    private static void oneTickOrMany() {
        ParkTower one = new ParkTower();
        ParkTower many = new ParkTower();
        Scenes.storeMany(one, 3);
        Scenes.storeMany(many, 3);
        one.leave(19);
        many.leave(19);
        for (int i = 0; i < 17; i++) {
            one.tick(1);
        }
        many.tick(17);
        for (int what = 0; what < 7; what++) {
            Check.same("look " + what, many.look(what), one.look(what));
        }
    }

    private static void nextOrderBeginsATickLater() {
        ParkTower tower = new ParkTower();
        Scenes.arriveSmall(tower, 0);
        int second = Scenes.arriveSmall(tower, 1);
        tower.shut(0);
        tower.shut(1);
        tower.tick(10);
        Check.same("the first has ended", tower.look(0), 1);
        Check.same("in that tick the second does not begin", tower.look(1), 0);
        tower.tick(1);
        Check.same("but in the next", tower.look(1), second);
        state(tower, 1, 1, 0);
    }

    private static void laterOrderGoesFirst() {
        ParkTower tower = new ParkTower();
        int[] tickets = Scenes.storeMany(tower, 2);
        tower.leave(tickets[1]);
        tower.tick(40);
        Check.same("fetched to bay 0", tower.bay(0, 2), tickets[1]);
        tower.leave(tickets[0]);
        int third = Scenes.arriveSmall(tower, 1);
        tower.shut(1);
        tower.tick(4);
        Check.same("bay 0 has a car, so the store begins", tower.look(1), third);
        tower.tick(40);
        Check.same("the fetch waits", tower.look(0), 1);
        Check.same("its bay stays open", tower.bay(0, 0), 2);
        tower.gone(0);
        tower.tick(4);
        Check.same("the door is shutting", tower.bay(0, 0), 3);
        tower.tick(1);
        Check.same("then the fetch begins", tower.look(1), tickets[0]);
    }

    private static void fetchWaitsForTheCarInItsBay() {
        ParkTower tower = new ParkTower();
        int stored = Scenes.store(tower);
        int came = Scenes.arriveSmall(tower, 0);
        tower.shut(0);
        Check.same("the order to fetch is made first", tower.leave(stored), 0);
        tower.tick(4);
        Check.same("two orders", tower.bay(0, 4), 2);
        Check.same("the bay is shut, but has a car: it is stored first", tower.look(1), came);
    }

    private static void ordersKeepTheirPlaces() {
        ParkTower tower = new ParkTower();
        int fetched = Scenes.store(tower);
        Scenes.arriveSmall(tower, 0);
        tower.shut(0);
        tower.tick(4);
        tower.leave(fetched);
        int last = Scenes.arriveSmall(tower, 1);
        tower.shut(1);
        tower.tick(5);
        Check.same("the first has ended", tower.look(0), 2);
        tower.tick(1);
        Check.same("the fetch waits for the door", tower.look(1), last);
        tower.tick(6);
        Check.same("the fetch alone is left", tower.look(0), 1);
        Check.same("for bay 0", tower.bay(0, 4), 1);
        tower.tick(1);
        Check.same("it begins", tower.look(1), fetched);
        tower.tick(60);
        Check.same("it is fetched", tower.bay(0, 2), fetched);
    }

    private static void fetchOfMovedCar() {
        ParkTower tower = new ParkTower();
        int[] tickets = Scenes.storeMany(tower, 2);
        tower.leave(tickets[0]);
        tower.leave(tickets[1]);
        tower.tick(40);
        Check.same("the first", tower.bay(0, 2), tickets[0]);
        Check.same("the one that was moved", tower.bay(1, 2), tickets[1]);
        Check.same("no car is left", tower.look(5), 0);
    }

    private static void doorOpensAndShutsAtOnce() {
        ParkTower tower = new ParkTower();
        int ticket = Scenes.store(tower);
        Scenes.arriveBig(tower, 0);
        tower.shut(0);
        tower.tick(4);
        tower.leave(ticket);
        tower.tick(1);
        Check.same("the store's car is taken", tower.bay(0, 0), 1);
        tower.tick(3);
        Check.same("opening", tower.bay(0, 0), 1);
        tower.tick(1);
        Check.same("open, and at once shutting for the fetch", tower.bay(0, 0), 3);
        tower.tick(4);
        Check.same("shut", tower.bay(0, 0), 0);
    }
}
