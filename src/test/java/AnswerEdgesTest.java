/** What the calls answer at the edges that their promises name; what they refuse is in RefusalsTest. */
public final class AnswerEdgesTest {
    public static void main(String[] args) {
        Sentences.test(AnswerEdgesTest.class);
    }

    private static void looks(ParkTower tower, int... due) {
        for (int what = 0; what < due.length; what++) {
            Check.same("look " + what, tower.look(what), due[what]);
        }
    }

    private static void bays(ParkTower tower, int bay, int... due) {
        for (int what = 0; what < due.length; what++) {
            Check.same("bay " + bay + ", " + what, tower.bay(bay, what), due[what]);
        }
    }

    @Sentence("An object is used for at most 512 calls after it has been made")
    static void the512thCall() {
        ParkTower tower = new ParkTower();
        for (int i = 1; i <= 510; i++) {
            Check.same("call " + i, tower.tick(500), 500 * i);
        }
        Check.same("call 511", Scenes.arriveSmall(tower, 1), 19);
        Check.same("call 512", tower.tick(500), 255500);
    }

    @Sentence("`ParkTower()`: Empty; lift at level 0; power on.")
    static void newTower() {
        ParkTower tower = new ParkTower();
        looks(tower, 0, 0, 0, 0, 0, 0, 0);
        bays(tower, 0, 2, 0, 0, 0, 0);
        bays(tower, 1, 2, 0, 0, 0, 0);
        for (int cell = 0; cell < 96; cell++) {
            Check.same("cell " + cell, tower.cell(cell), 0);
        }
        Check.illegalState("power is on", () -> tower.power(true));
        Check.same("no time has gone", tower.tick(1), 1);
    }

    @Sentence("`ParkTower()`: Empty; lift at level 0; power on.")
    static void newTowerBesideAnUsedOne() {
        ParkTower used = new ParkTower();
        Scenes.storeMany(used, 3);
        Scenes.leaveOnlyLevel(used, 3);
        used.power(false);
        newTower();
        ParkTower other = new ParkTower();
        Scenes.arriveSmall(other, 0);
        Check.same("no level is jammed", Scenes.levelKept(other), 0);
        Check.same("the used one keeps its cars", used.look(5), 3);
    }

    @Sentence("A car comes: its ticket")
    static void ticketIsInTheBay() {
        ParkTower tower = new ParkTower();
        int ticket = Scenes.arriveSmall(tower, 1);
        bays(tower, 1, 2, 0, ticket, 0, 0);
        bays(tower, 0, 2, 0, 0, 0, 0);
        looks(tower, 0, 0, 0, 0, 0, 0, 1);
    }

    @Sentence("A person is in a bay, or not.")
    static void personComesAndGoesAtAnyDoorButAShutOne() {
        ParkTower tower = new ParkTower();
        tower.person(0, false);
        Check.same("none was in", tower.bay(0, 1), 0);
        tower.person(0, true);
        tower.person(0, true);
        Check.same("one is in, said twice", tower.bay(0, 1), 1);
        Check.same("none in the other", tower.bay(1, 1), 0);
        tower.person(0, false);
        Check.same("out, said once", tower.bay(0, 1), 0);
        tower.shut(0);
        tower.person(0, true);
        Check.same("in while it was shutting", tower.bay(0, 1), 1);
        tower.person(0, false);
        tower.person(0, true);
        Check.same("in while it is opening", tower.bay(0, 1), 1);
        Check.same("it is opening", tower.bay(0, 0), 1);
    }

    @Sentence("The fetched car drives off: its ticket.")
    static void goneWithAPersonAndWithoutPower() {
        ParkTower tower = new ParkTower();
        int ticket = Scenes.store(tower);
        tower.leave(ticket);
        tower.tick(15);
        tower.power(false);
        tower.person(0, true);
        Check.same("its ticket", tower.gone(0), ticket);
        bays(tower, 0, 2, 1, 0, 0, 0);
    }

    @Sentence("Asks for a car: the bay, which is the one with fewer orders to fetch (0 of the same).")
    static void bayWithFewerFetches() {
        ParkTower tower = new ParkTower();
        int[] tickets = Scenes.storeMany(tower, 6);
        Check.same("0 and 0", tower.leave(tickets[5]), 0);
        Check.same("1 and 0", tower.leave(tickets[4]), 1);
        Check.same("1 and 1", tower.leave(tickets[3]), 0);
        Check.same("2 and 1", tower.leave(tickets[2]), 1);
        Check.same("2 and 2", tower.leave(tickets[1]), 0);
        Check.same("3 for bay 0", tower.bay(0, 4), 3);
        Check.same("2 for bay 1", tower.bay(1, 4), 2);
    }

    @Sentence("the one with fewer orders to fetch")
    static void storesAreNotCounted() {
        ParkTower tower = new ParkTower();
        int ticket = Scenes.store(tower);
        Scenes.arriveSmall(tower, 0);
        tower.shut(0);
        tower.tick(4);
        Check.same("an order for bay 0", tower.bay(0, 4), 1);
        Check.same("bay 0 still", tower.leave(ticket), 0);
    }

    @Sentence("the one with fewer orders to fetch")
    static void fetchIsCountedToItsEnd() {
        ParkTower tower = new ParkTower();
        int[] tickets = Scenes.storeMany(tower, 3);
        tower.leave(tickets[1]);
        tower.tick(9);
        Check.same("a tick before its end", tower.look(1), tickets[1]);
        Check.same("it is counted", tower.leave(tickets[0]), 1);
        ParkTower other = new ParkTower();
        Scenes.storeMany(other, 3);
        other.leave(tickets[1]);
        other.tick(10);
        Check.same("it has ended", other.look(0), 0);
        Check.same("its car in the bay does not count", other.leave(tickets[0]), 0);
    }

    @Sentence("the one with fewer orders to fetch")
    static void bayNoughtWithMoreThanBayOne() {
        ParkTower tower = new ParkTower();
        int[] tickets = Scenes.storeMany(tower, 5);
        tower.person(0, true);
        tower.leave(tickets[1]);
        tower.leave(tickets[3]);
        tower.tick(40);
        Check.same("bay 1's is done, bay 0's waits", 10 * tower.bay(0, 4) + tower.bay(1, 4), 10);
        Check.same("1 and 0", tower.leave(tickets[0]), 1);
        Check.same("1 and 1", tower.leave(tickets[2]), 0);
    }

    @Sentence("n ticks (1 .. 500): the time.")
    static void manyTicksAreAsManyTimesOne() {
        ParkTower one = new ParkTower();
        ParkTower many = new ParkTower();
        for (ParkTower tower : new ParkTower[] {one, many}) {
            Scenes.storeMany(tower, 3);
            Scenes.arriveBig(tower, 1);
            tower.shut(1);
            tower.leave(19);
        }
        for (int n = 1; n < 12; n++) {
            for (int i = 1; i < n; i++) {
                one.tick(1);
            }
            Check.same("the time", many.tick(n), one.tick(1));
            for (int what = 0; what < 7; what++) {
                Check.same("look " + what, many.look(what), one.look(what));
            }
        }
    }

    @Sentence("n ticks (1 .. 500): the time.")
    static void timeGoesOnWithoutPower() {
        ParkTower tower = new ParkTower();
        Check.same("with power", tower.tick(500), 500);
        tower.power(false);
        Check.same("without", tower.tick(500), 1000);
        tower.power(true);
        Check.same("in the run", tower.tick(1), 1001);
    }

    @Sentence("The ticket of the car in a cell, 0 a free one, -1 one that is kept.")
    static void cellOfEachKind() {
        ParkTower tower = new ParkTower();
        int behind = Scenes.store(tower);
        Scenes.arriveSmall(tower, 1);
        Check.same("a car", tower.cell(1), behind);
        Check.same("kept", tower.cell(0), -1);
        Check.same("free", tower.cell(2), 0);
        Scenes.leaveOnlyLevel(tower, 3);
        Scenes.arriveSmall(tower, 0);
        Check.same("kept on the highest level", tower.cell(73), -1);
        Check.same("the last cell of the level below", tower.cell(71), 0);
    }

    @Sentence("Move i of a car's plan, 100 times the cell it is from, and that it goes to; i -1: how many")
    static void moveFromTheFirstCellAndToTheLast() {
        ParkTower tower = new ParkTower();
        int[] tickets = Scenes.storeMany(tower, 2);
        Check.same("from 0 to 2", tower.plan(tickets[0], 0), 2);
        Check.same("one", tower.plan(tickets[0], -1), 1);
        Check.same("none", tower.plan(tickets[1], -1), 0);
        ParkTower high = new ParkTower();
        Scenes.leaveOnlyLevel(high, 3);
        int[] cars = Scenes.storeMany(high, 22);
        Scenes.fetch(high, cars[19]);
        Check.same("from 82 to 92", high.plan(cars[20], 0), 8292);
    }

    @Sentence("Of a bay 0 its door, 1 whether a person is in it (1, 0), 2 its car's ticket (0 none), "
            + "3 whether that was fetched, 4 how many orders are for it.")
    static void bayThroughAStoreAndAFetch() {
        ParkTower tower = new ParkTower();
        int ticket = Scenes.arriveSmall(tower, 0);
        tower.person(0, true);
        bays(tower, 0, 2, 1, ticket, 0, 0);
        tower.person(0, false);
        tower.shut(0);
        bays(tower, 0, 3, 0, ticket, 0, 0);
        tower.tick(4);
        bays(tower, 0, 0, 0, ticket, 0, 1);
        tower.tick(1);
        bays(tower, 0, 1, 0, 0, 0, 1);
        tower.tick(5);
        bays(tower, 0, 2, 0, 0, 0, 0);
        tower.leave(ticket);
        bays(tower, 0, 2, 0, 0, 0, 1);
        tower.tick(11);
        bays(tower, 0, 1, 0, ticket, 1, 0);
        bays(tower, 1, 2, 0, 0, 0, 0);
        tower.tick(4);
        tower.gone(0);
        bays(tower, 0, 2, 0, 0, 0, 0);
        int next = Scenes.arriveSmall(tower, 0);
        bays(tower, 0, 2, 0, next, 0, 0);
    }

    @Sentence("0 orders (the one that is done, too), 1 the ticket of the one that is done (0)")
    static void ordersAndTheOneThatIsDone() {
        ParkTower tower = new ParkTower();
        Scenes.arriveSmall(tower, 0);
        Scenes.arriveSmall(tower, 1);
        tower.shut(0);
        looks(tower, 0, 0);
        tower.tick(4);
        looks(tower, 1, 19);
        tower.shut(1);
        tower.tick(4);
        looks(tower, 2, 19);
        tower.tick(2);
        looks(tower, 1, 0);
        tower.tick(1);
        looks(tower, 1, 27);
        tower.tick(20);
        looks(tower, 0, 0);
    }

    @Sentence("2 how many steps of it are ended or passed over, 3 ticks of the step still to go")
    static void stepsAndTicksFromBeginToEnd() {
        ParkTower tower = new ParkTower();
        int back = Scenes.storeBig(tower);
        Scenes.storeBig(tower);
        Scenes.store(tower);
        tower.leave(back);
        tower.tick(4);
        looks(tower, 1, 0, 0, 0, 0);
        tower.tick(1);
        looks(tower, 1, back, 0, 8, 0);
        tower.tick(8);
        looks(tower, 1, back, 1, 10, 3);
        tower.tick(10);
        looks(tower, 1, back, 2, 5, 3);
        tower.tick(5);
        looks(tower, 1, back, 3, 9, 3);
        tower.tick(9);
        looks(tower, 1, back, 4, 2, 0);
        tower.tick(2);
        looks(tower, 0, 0, 0, 0, 0);
    }

    @Sentence("4 the level of the lift (where it was last, while it goes)")
    static void liftWhileItGoes() {
        ParkTower tower = new ParkTower();
        Scenes.arriveBig(tower, 0);
        tower.shut(0);
        tower.tick(13);
        Check.same("in its last tick", tower.look(3), 1);
        Check.same("where it was last", tower.look(4), 0);
        tower.tick(1);
        Check.same("where it is", tower.look(4), 3);
        tower.tick(5);
        Check.same("where it stays", tower.look(4), 3);
    }

    @Sentence("5 cars in cells, 6 the latest serial that was given (0 none)")
    static void carsAndSerials() {
        ParkTower tower = new ParkTower();
        Scenes.arriveSmall(tower, 0);
        Check.same("a car in a bay is in no cell", tower.look(5), 0);
        Check.same("it has a serial", tower.look(6), 1);
        tower.shut(0);
        tower.tick(9);
        Check.same("nor is one on the lift", tower.look(5), 0);
        tower.tick(1);
        Check.same("in a cell", tower.look(5), 1);
        tower.leave(19);
        tower.tick(8);
        Check.same("still in it", tower.look(5), 1);
        tower.tick(1);
        Check.same("taken", tower.look(5), 0);
        tower.tick(20);
        tower.gone(0);
        Check.same("the latest serial stays", tower.look(6), 1);
    }
}
