/** Promise 8: power. */
public final class PowerTest {
    public static void main(String[] args) {
        refusals();
        doorsStandStill();
        stepsStandStill();
        runOfFiveTicks();
        runBeginsAnew();
        ordersBeginWithoutPower();
        runIsCountedWithoutPowerToo();
        noDoorShutsByItself();
        Check.end();
    }

    private static void refusals() {
        ParkTower tower = new ParkTower();
        Check.illegalState("on, when on", () -> tower.power(true));
        tower.power(false);
        Check.illegalState("off, when off", () -> tower.power(false));
        tower.power(true);
        Check.illegalState("on, when on again", () -> tower.power(true));
    }

    private static void doorsStandStill() {
        ParkTower tower = new ParkTower();
        Scenes.arriveSmall(tower, 0);
        tower.shut(0);
        tower.tick(2);
        tower.power(false);
        Check.same("time goes on", tower.tick(10), 12);
        Check.same("the door does not", tower.bay(0, 0), 3);
        tower.power(true);
        tower.tick(2);
        Check.same("it moves in the run", tower.bay(0, 0), 0);
        Check.same("and the order is made", tower.look(0), 1);
        Check.same("but does not begin", tower.look(1), 0);
        tower.tick(3);
        Check.same("in none of the five", tower.look(1), 0);
        tower.tick(1);
        Check.same("then it begins", tower.look(1), 19);
        Check.same("and goes on", tower.look(3), 1);
    }

    private static void stepsStandStill() {
        ParkTower tower = new ParkTower();
        Scenes.arriveBig(tower, 0);
        tower.shut(0);
        tower.tick(7);
        Check.same("the lift goes", tower.look(3), 7);
        tower.power(false);
        tower.tick(20);
        Check.same("it stands", tower.look(3), 7);
        Check.same("so does the door", tower.bay(0, 0), 1);
    }

    private static void runOfFiveTicks() {
        ParkTower tower = new ParkTower();
        Scenes.arriveBig(tower, 0);
        tower.shut(0);
        tower.tick(7);
        tower.power(false);
        tower.power(true);
        tower.tick(5);
        Check.same("the run", tower.look(3), 7);
        Check.same("doors move in it", tower.bay(0, 0), 2);
        tower.tick(1);
        Check.same("after the run", tower.look(3), 6);
    }

    private static void runBeginsAnew() {
        ParkTower tower = new ParkTower();
        Scenes.arriveBig(tower, 0);
        tower.shut(0);
        tower.tick(7);
        tower.power(false);
        tower.power(true);
        tower.tick(3);
        tower.power(false);
        tower.power(true);
        tower.tick(5);
        Check.same("five ticks again", tower.look(3), 7);
        tower.tick(1);
        Check.same("after them", tower.look(3), 6);
    }

    /** The document asks power of each step, and none of an order to store that begins. */
    private static void ordersBeginWithoutPower() {
        ParkTower tower = new ParkTower();
        Scenes.arriveSmall(tower, 0);
        int second = Scenes.arriveSmall(tower, 1);
        tower.shut(0);
        tower.shut(1);
        tower.tick(10);
        Check.same("the first is done", tower.look(0), 1);
        Check.same("the second has not begun", tower.look(1), 0);
        tower.power(false);
        tower.tick(1);
        Check.same("it has now", tower.look(1), second);
        tower.tick(30);
        Check.same("and waits", tower.look(3), 2);
    }

    private static void runIsCountedWithoutPowerToo() {
        ParkTower tower = new ParkTower();
        Scenes.arriveSmall(tower, 0);
        tower.shut(0);
        tower.power(false);
        tower.power(true);
        tower.tick(4);
        tower.power(false);
        tower.tick(1);
        Check.same("the fifth tick of the run", tower.look(1), 0);
        tower.tick(1);
        Check.same("the order begins after it", tower.look(1), 19);
        Check.same("and waits for power", tower.look(3), 2);
    }

    private static void noDoorShutsByItself() {
        ParkTower tower = new ParkTower();
        int ticket = Scenes.store(tower);
        tower.power(false);
        tower.leave(ticket);
        tower.tick(10);
        Check.same("not without power", tower.bay(0, 0), 2);
        tower.power(true);
        tower.tick(1);
        Check.same("in the run", tower.bay(0, 0), 3);
    }
}
