/** BAYS: their doors, persons and cars. */
public final class DoorEdgesTest {
    private static final int SHUT = 0;
    private static final int OPENING = 1;
    private static final int OPEN = 2;
    private static final int SHUTTING = 3;

    public static void main(String[] args) {
        Sentences.test(DoorEdgesTest.class);
    }

    @Sentence("BAYS 0, 1 have a DOOR (0 shut, 1 opening, 2 open, 3 shutting; open at first)")
    static void doorsAreOpenAtFirst() {
        ParkTower tower = new ParkTower();
        Check.same("door of bay 0", tower.bay(0, 0), OPEN);
        Check.same("door of bay 1", tower.bay(1, 0), OPEN);
        tower.tick(500);
        Check.same("bay 0 stays open", tower.bay(0, 0), OPEN);
        Check.same("bay 1 stays open", tower.bay(1, 0), OPEN);
    }

    @Sentence("Opening and shutting take 4 ticks each")
    static void shuttingTakesFourTicks() {
        ParkTower tower = new ParkTower();
        tower.shut(0);
        Check.same("at once", tower.bay(0, 0), SHUTTING);
        tower.tick(3);
        Check.same("after 3 ticks", tower.bay(0, 0), SHUTTING);
        tower.tick(1);
        Check.same("after 4 ticks", tower.bay(0, 0), SHUT);
    }

    @Sentence("Opening and shutting take 4 ticks each")
    static void openingTakesFourTicks() {
        ParkTower tower = new ParkTower();
        Scenes.arriveSmall(tower, 0);
        tower.shut(0);
        tower.tick(5);
        Check.same("as the car is taken", tower.bay(0, 0), OPENING);
        tower.tick(3);
        Check.same("after 3 ticks", tower.bay(0, 0), OPENING);
        tower.tick(1);
        Check.same("after 4 ticks", tower.bay(0, 0), OPEN);
    }

    @Sentence("while it is shutting, a person who comes in makes it begin to open")
    static void personTurnsTheDoorAtAnyTickOfShutting() {
        for (int ticks = 0; ticks < 4; ticks++) {
            ParkTower tower = new ParkTower();
            tower.shut(1);
            if (ticks > 0) {
                tower.tick(ticks);
            }
            tower.person(1, true);
            Check.same("turned after " + ticks, tower.bay(1, 0), OPENING);
            tower.tick(3);
            Check.same("3 ticks later", tower.bay(1, 0), OPENING);
            tower.tick(1);
            Check.same("4 ticks later", tower.bay(1, 0), OPEN);
        }
    }

    @Sentence("while it is shutting, a person who comes in makes it begin to open")
    static void personGoingOutTurnsNothing() {
        ParkTower tower = new ParkTower();
        tower.shut(1);
        tower.tick(2);
        tower.person(1, false);
        Check.same("still shutting", tower.bay(1, 0), SHUTTING);
        tower.tick(2);
        Check.same("shut in time", tower.bay(1, 0), SHUT);
    }

    @Sentence("while it is shutting, a person who comes in makes it begin to open")
    static void personTurnsNoOtherDoor() {
        ParkTower tower = new ParkTower();
        tower.shut(0);
        tower.shut(1);
        tower.tick(2);
        tower.person(1, true);
        Check.same("the other is shutting still", tower.bay(0, 0), SHUTTING);
        tower.person(1, false);
        tower.tick(2);
        Check.same("it gets shut", tower.bay(0, 0), SHUT);
        tower.person(1, true);
        tower.tick(2);
        Check.same("one who comes in while it opens does not delay it", tower.bay(1, 0), OPEN);
    }

    @Sentence("A door moves, and begins to by itself, with power alone.")
    static void shuttingDoorStandsWithoutPower() {
        ParkTower tower = new ParkTower();
        tower.shut(0);
        tower.tick(3);
        tower.power(false);
        tower.tick(500);
        Check.same("without power", tower.bay(0, 0), SHUTTING);
        tower.power(true);
        tower.tick(1);
        Check.same("the one tick that it lacked", tower.bay(0, 0), SHUT);
    }

    @Sentence("A door moves, and begins to by itself, with power alone.")
    static void openingDoorStandsWithoutPower() {
        ParkTower tower = new ParkTower();
        Scenes.arriveSmall(tower, 0);
        tower.shut(0);
        tower.tick(8);
        tower.power(false);
        tower.tick(500);
        Check.same("without power", tower.bay(0, 0), OPENING);
        tower.power(true);
        tower.tick(1);
        Check.same("the one tick that it lacked", tower.bay(0, 0), OPEN);
    }

    @Sentence("A door moves, and begins to by itself, with power alone.")
    static void noDoorBeginsByItselfWithoutPower() {
        ParkTower tower = new ParkTower();
        int ticket = Scenes.store(tower);
        tower.leave(ticket);
        tower.power(false);
        tower.tick(500);
        Check.same("without power", tower.bay(0, 0), OPEN);
        tower.power(true);
        tower.tick(1);
        Check.same("with power", tower.bay(0, 0), SHUTTING);
    }

    @Sentence("arrive(): a car comes through an open door onto an empty bay.")
    static void carComesThroughAnOpenDoorAlone() {
        ParkTower tower = new ParkTower();
        tower.shut(0);
        Check.same("shutting", Scenes.arriveSmall(tower, 0), -2);
        tower.tick(4);
        Check.same("shut", Scenes.arriveSmall(tower, 0), -2);
        ParkTower other = new ParkTower();
        other.shut(0);
        other.person(0, true);
        other.tick(3);
        Check.same("opening", Scenes.arriveSmall(other, 0), -2);
        other.tick(1);
        Check.same("open", Scenes.arriveSmall(other, 0), 19);
    }

    @Sentence("arrive(): a car comes through an open door onto an empty bay.")
    static void carComesOntoAnEmptyBayAlone() {
        ParkTower tower = new ParkTower();
        int ticket = Scenes.store(tower);
        tower.leave(ticket);
        tower.tick(30);
        Check.same("an open door", tower.bay(0, 0), OPEN);
        Check.same("a fetched car is there", Scenes.arriveSmall(tower, 0), -1);
        tower.gone(0);
        Check.same("it is empty", Scenes.arriveSmall(tower, 0), 27);
        Check.same("a car that came is there", Scenes.arriveSmall(tower, 0), -1);
        Check.same("the other bay", Scenes.arriveSmall(tower, 1), 35);
    }

    @Sentence("shut(): an open door without a person in the bay shuts.")
    static void shutWithAndWithoutACar() {
        ParkTower tower = new ParkTower();
        Scenes.arriveSmall(tower, 0);
        tower.person(0, true);
        Check.illegalState("a person is in", () -> tower.shut(0));
        Check.same("it stays open", tower.bay(0, 0), OPEN);
        tower.person(0, false);
        tower.shut(0);
        tower.shut(1);
        tower.tick(4);
        Check.same("with a car", tower.bay(0, 0), SHUT);
        Check.same("without one", tower.bay(1, 0), SHUT);
    }

    @Sentence("When it is shut and the car in the bay came by arrive(), an order to STORE it is made.")
    static void storeOrderIsMadeAsTheDoorIsShut() {
        ParkTower tower = new ParkTower();
        Scenes.arriveSmall(tower, 1);
        tower.shut(1);
        tower.tick(3);
        Check.same("no order before", tower.look(0), 0);
        tower.tick(1);
        Check.same("an order", tower.look(0), 1);
        Check.same("for its bay", tower.bay(1, 4), 1);
        Check.same("of its car", tower.look(1), 19);
    }

    @Sentence("When it is shut and the car in the bay came by arrive(), an order to STORE it is made.")
    static void emptyBayMakesNoOrder() {
        ParkTower tower = new ParkTower();
        tower.shut(1);
        tower.tick(20);
        Check.same("no order", tower.look(0), 0);
    }

    @Sentence("When it is shut and the car in the bay came by arrive(), an order to STORE it is made.")
    static void oneOrderForACar() {
        ParkTower tower = new ParkTower();
        Scenes.arriveSmall(tower, 0);
        Scenes.arriveSmall(tower, 1);
        tower.shut(0);
        tower.tick(2);
        tower.person(0, true);
        tower.tick(4);
        tower.person(0, false);
        Check.same("turned back: none", tower.look(0), 0);
        tower.shut(0);
        tower.shut(1);
        tower.tick(4);
        Check.same("one for each", tower.look(0), 2);
        tower.tick(1);
        Check.same("no more of them", tower.look(0), 2);
    }

    @Sentence("When a fetched car is in a bay, its door opens by itself")
    static void doorOpensForAFetchedCar() {
        ParkTower tower = new ParkTower();
        int ticket = Scenes.store(tower);
        tower.leave(ticket);
        tower.tick(10);
        Check.same("not before", tower.bay(0, 0), SHUT);
        tower.tick(1);
        Check.same("the car is there", tower.bay(0, 3), 1);
        Check.same("it opens", tower.bay(0, 0), OPENING);
        tower.tick(4);
        Check.same("open", tower.bay(0, 0), OPEN);
        tower.tick(500);
        Check.same("and stays so", tower.bay(0, 0), OPEN);
    }

    @Sentence("gone() takes the car away (through the open door)")
    static void carLeavesThroughTheOpenDoorAlone() {
        ParkTower tower = new ParkTower();
        int ticket = Scenes.store(tower);
        tower.leave(ticket);
        tower.tick(14);
        Check.same("opening", tower.bay(0, 0), OPENING);
        Check.illegalState("before it is open", () -> tower.gone(0));
        tower.tick(1);
        Check.same("as it is open", tower.gone(0), ticket);
        Check.same("it stays open", tower.bay(0, 0), OPEN);
    }

    @Sentence("An open door of an empty bay without a person shuts by itself, when the first order that waits "
            + "for the bay is to fetch.")
    static void doorShutsForAFetch() {
        ParkTower tower = new ParkTower();
        int ticket = Scenes.store(tower);
        tower.tick(500);
        Check.same("no order: open", tower.bay(0, 0), OPEN);
        tower.leave(ticket);
        Check.same("no tick yet: open", tower.bay(0, 0), OPEN);
        tower.tick(1);
        Check.same("with the first tick", tower.bay(0, 0), SHUTTING);
        Check.same("the other bay: open", tower.bay(1, 0), OPEN);
        tower.tick(4);
        Check.same("4 ticks later", tower.bay(0, 0), SHUT);
    }

    @Sentence("An open door of an empty bay without a person shuts by itself")
    static void doorOfABayWithACarStaysOpen() {
        ParkTower tower = new ParkTower();
        int ticket = Scenes.store(tower);
        Scenes.arriveSmall(tower, 0);
        tower.leave(ticket);
        tower.tick(20);
        Check.same("a car that came", tower.bay(0, 0), OPEN);
        ParkTower other = new ParkTower();
        int[] tickets = Scenes.storeMany(other, 2);
        other.leave(tickets[1]);
        other.tick(40);
        other.leave(tickets[0]);
        other.tick(20);
        Check.same("a fetched car", other.bay(0, 0), OPEN);
        other.gone(0);
        other.tick(1);
        Check.same("when it is gone", other.bay(0, 0), SHUTTING);
    }

    @Sentence("An open door of an empty bay without a person shuts by itself")
    static void doorOfABayWithAPersonStaysOpen() {
        ParkTower tower = new ParkTower();
        int ticket = Scenes.store(tower);
        tower.person(0, true);
        tower.person(1, true);
        tower.leave(ticket);
        tower.tick(20);
        Check.same("a person is in", tower.bay(0, 0), OPEN);
        tower.person(0, false);
        tower.tick(1);
        Check.same("when they are out", tower.bay(0, 0), SHUTTING);
        tower.tick(3);
        tower.person(0, true);
        tower.tick(4);
        Check.same("one came in before it was shut", tower.bay(0, 0), OPEN);
        tower.person(0, false);
        tower.tick(5);
        Check.same("once more", tower.bay(0, 0), SHUT);
    }

    @Sentence("when the first order that waits for the bay is to fetch")
    static void storeThatIsBeingDoneDoesNotWait() {
        ParkTower tower = new ParkTower();
        int ticket = Scenes.store(tower);
        Scenes.arriveBig(tower, 0);
        tower.shut(0);
        tower.tick(5);
        tower.leave(ticket);
        tower.tick(3);
        Check.same("the store goes on", tower.bay(0, 4), 2);
        Check.same("opening", tower.bay(0, 0), OPENING);
        tower.tick(1);
        Check.same("open, and shutting in the same tick", tower.bay(0, 0), SHUTTING);
    }
}
