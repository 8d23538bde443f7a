/** POWER and A TICK: the run of 5 ticks, and what comes first in a tick. */
public final class PowerEdgesTest {
    public static void main(String[] args) {
        Sentences.test(PowerEdgesTest.class);
    }

    private static void failAndComeAgain(ParkTower tower) {
        tower.power(false);
        tower.power(true);
    }

    @Sentence("POWER that comes again makes a run of 5 ticks, in which no order begins")
    static void noOrderBeginsInTheRun() {
        ParkTower tower = new ParkTower();
        Scenes.store(tower);
        tower.shut(0);
        tower.tick(4);
        tower.leave(19);
        failAndComeAgain(tower);
        tower.tick(5);
        Check.same("not in the fifth", tower.look(1), 0);
        tower.tick(1);
        Check.same("in the sixth", tower.look(1), 19);
        Check.same("in which it goes on by one", tower.look(3), 4);
    }

    @Sentence("in which no order begins or goes on")
    static void noOrderGoesOnInTheRun() {
        ParkTower tower = new ParkTower();
        Scenes.arriveSmall(tower, 0);
        tower.shut(0);
        tower.tick(6);
        Check.same("4 ticks to go", tower.look(3), 4);
        failAndComeAgain(tower);
        tower.tick(5);
        Check.same("not in the fifth", tower.look(3), 4);
        tower.tick(1);
        Check.same("in the sixth", tower.look(3), 3);
    }

    @Sentence("POWER that comes again makes a run of 5 ticks")
    static void noRunAtFirst() {
        ParkTower tower = new ParkTower();
        Scenes.arriveSmall(tower, 0);
        tower.shut(0);
        tower.tick(4);
        Check.same("the order has begun", tower.look(1), 19);
    }

    @Sentence("POWER that comes again makes a run of 5 ticks")
    static void powerThatFailsInTheRunMakesAnother() {
        for (int ticks = 1; ticks <= 5; ticks++) {
            ParkTower tower = new ParkTower();
            Scenes.arriveSmall(tower, 0);
            tower.shut(0);
            tower.tick(6);
            failAndComeAgain(tower);
            tower.tick(ticks);
            failAndComeAgain(tower);
            tower.tick(5);
            Check.same("five ticks again behind " + ticks, tower.look(3), 4);
            tower.tick(1);
            Check.same("and no more", tower.look(3), 3);
        }
    }

    @Sentence("(doors do)")
    static void doorsMoveInTheRun() {
        ParkTower tower = new ParkTower();
        Scenes.arriveSmall(tower, 0);
        tower.shut(0);
        failAndComeAgain(tower);
        tower.tick(3);
        Check.same("shutting", tower.bay(0, 0), 3);
        tower.tick(1);
        Check.same("shut", tower.bay(0, 0), 0);
        Check.same("the order is made", tower.look(0), 1);
        Check.same("and does not begin", tower.look(1), 0);
    }

    @Sentence("(doors do)")
    static void doorsBeginByThemselvesInTheRun() {
        ParkTower tower = new ParkTower();
        Scenes.store(tower);
        tower.leave(19);
        failAndComeAgain(tower);
        tower.tick(1);
        Check.same("in the first tick", tower.bay(0, 0), 3);
        tower.tick(4);
        Check.same("shut in the fifth", tower.bay(0, 0), 0);
        Check.same("in which the order does not begin", tower.look(1), 0);
        tower.tick(1);
        Check.same("but in the sixth", tower.look(1), 19);
    }

    @Sentence("In the tick in which an order ends the next one does not begin.")
    static void oneTickBetweenOrders() {
        ParkTower tower = new ParkTower();
        Scenes.arriveSmall(tower, 0);
        int second = Scenes.arriveSmall(tower, 1);
        tower.shut(0);
        tower.shut(1);
        tower.tick(9);
        Check.same("the first", tower.look(1), 19);
        tower.tick(1);
        Check.same("it ends: none", tower.look(1), 0);
        tower.tick(1);
        Check.same("the next", tower.look(1), second);
        Check.same("which goes on by one", tower.look(3), 1);
    }

    @Sentence("A TICK: first the doors of bays 0 and 1")
    static void doorOfBayNoughtIsFirst() {
        ParkTower tower = new ParkTower();
        Scenes.arriveSmall(tower, 1);
        int first = Scenes.arriveSmall(tower, 0);
        tower.shut(1);
        tower.shut(0);
        tower.tick(4);
        Check.same("the order of bay 0", tower.look(1), first);
    }

    @Sentence("(those that are moving go on by one; then the rule by which one shuts by itself)")
    static void doorOpensAndShutsInOneTick() {
        ParkTower tower = new ParkTower();
        int[] tickets = Scenes.storeMany(tower, 2);
        tower.leave(tickets[0]);
        tower.person(0, true);
        tower.person(0, false);
        tower.tick(1);
        Check.same("shutting", tower.bay(0, 0), 3);
        tower.person(0, true);
        tower.person(0, false);
        tower.tick(3);
        Check.same("opening", tower.bay(0, 0), 1);
        tower.tick(1);
        Check.same("open, and shutting at once", tower.bay(0, 0), 3);
        tower.tick(3);
        Check.same("it does not move in the tick in which it begins", tower.bay(0, 0), 3);
        tower.tick(1);
        Check.same("shut", tower.bay(0, 0), 0);
    }

    @Sentence("then the run or the orders")
    static void ordersComeBehindTheDoors() {
        ParkTower tower = new ParkTower();
        Scenes.arriveSmall(tower, 0);
        tower.shut(0);
        tower.tick(4);
        Check.same("the door is shut, and the order begins and goes on", tower.look(3), 1);
        tower.tick(1);
        Check.same("the car is taken", tower.bay(0, 0), 1);
        tower.tick(3);
        Check.same("the door did not move in that tick", tower.bay(0, 0), 1);
        tower.tick(1);
        Check.same("it takes four more", tower.bay(0, 0), 2);
    }

    @Sentence("A step goes on by one in a tick when there is power")
    static void orderThatBeginsWithoutPowerWaits() {
        ParkTower tower = new ParkTower();
        Scenes.store(tower);
        tower.shut(0);
        tower.tick(4);
        tower.leave(19);
        tower.power(false);
        tower.tick(1);
        Check.same("it begins: power is asked of steps alone", tower.look(1), 19);
        tower.tick(20);
        Check.same("its step waits", tower.look(3), 5);
        tower.power(true);
        tower.tick(5);
        Check.same("for the run, too", tower.look(3), 5);
        tower.tick(1);
        Check.same("then it goes on", tower.look(3), 4);
    }
}
