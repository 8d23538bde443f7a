/** STORE and FETCH: each step's ticks, what it does as it ends, and what it waits for. */
public final class StepEdgesTest {
    public static void main(String[] args) {
        Sentences.test(StepEdgesTest.class);
    }

    private static void step(ParkTower tower, int ended, int left) {
        Check.same("steps ended", tower.look(2), ended);
        Check.same("ticks to go", tower.look(3), left);
    }

    /** A tower whose lift stands at this level, where a small car is. */
    private static ParkTower towerWithLiftAt(int level) {
        ParkTower tower = new ParkTower();
        Scenes.leaveOnlyLevel(tower, level);
        Scenes.store(tower);
        for (int l = 0; l < 4; l++) {
            tower.jam(l, false);
        }
        return tower;
    }

    @Sentence("STORE: the lift goes to level 0 (3 ticks a level)")
    static void liftGoesDownToTheBay() {
        for (int level = 1; level < 4; level++) {
            ParkTower tower = towerWithLiftAt(level);
            Scenes.arriveSmall(tower, 1);
            tower.shut(1);
            tower.tick(4);
            step(tower, 0, 3 * level - 1);
            Check.same("where the lift was last", tower.look(4), level);
            tower.tick(3 * level - 2);
            step(tower, 0, 1);
            Check.same("where it was last, still", tower.look(4), level);
            tower.tick(1);
            step(tower, 1, 2);
            Check.same("where it is", tower.look(4), 0);
        }
    }

    @Sentence("the car is taken from the bay, whose door begins to open (2 ticks; AT THE BAY)")
    static void carIsTakenFromTheBay() {
        ParkTower tower = new ParkTower();
        Scenes.arriveSmall(tower, 0);
        tower.shut(0);
        tower.tick(4);
        step(tower, 1, 1);
        Check.same("still in the bay", tower.bay(0, 2), 19);
        Check.same("behind a shut door", tower.bay(0, 0), 0);
        tower.tick(1);
        Check.same("taken", tower.bay(0, 2), 0);
        Check.same("the door begins to open", tower.bay(0, 0), 1);
        Check.same("in no cell yet", tower.look(5), 0);
    }

    @Sentence("the lift goes to the level; the car is put")
    static void liftGoesUpToTheLevel() {
        for (int level = 1; level < 4; level++) {
            ParkTower tower = new ParkTower();
            Scenes.leaveOnlyLevel(tower, level);
            Scenes.arriveSmall(tower, 0);
            tower.shut(0);
            tower.tick(5);
            step(tower, 2, 3 * level);
            tower.tick(3 * level - 1);
            step(tower, 2, 1);
            Check.same("where the lift was last", tower.look(4), 0);
            tower.tick(1);
            step(tower, 3, 5);
            Check.same("where it is", tower.look(4), level);
        }
    }

    @Sentence("the car is put (2 (c + 1) + 2 + d ticks, AT THE LEVEL), and is in the cell")
    static void ticksOfEachCell() {
        ParkTower tower = new ParkTower();
        for (int i = 0; i < 23; i++) {
            int column = i / 4;
            int depth = 1 - i % 2;
            int cell = 12 * (i / 2 % 2) + 2 * column + depth;
            int ticket = Scenes.arriveSmall(tower, 0);
            tower.shut(0);
            tower.tick(5);
            step(tower, 3, 2 * (column + 1) + 2 + depth);
            tower.tick(2 * (column + 1) + 1 + depth);
            Check.same("not yet in cell " + cell, tower.cell(cell), -1);
            tower.tick(1);
            Check.same("in cell " + cell, tower.cell(cell), ticket);
            tower.tick(4);
        }
    }

    @Sentence("(what was kept in front is free)")
    static void freeInFrontAsTheCarIsPut() {
        ParkTower tower = new ParkTower();
        Scenes.storeMany(tower, 2);
        Scenes.arriveSmall(tower, 0);
        tower.shut(0);
        tower.tick(9);
        Check.same("kept", tower.cell(12), -1);
        tower.tick(1);
        Check.same("free", tower.cell(12), 0);
        Check.same("the car behind it", tower.cell(13), 35);
    }

    @Sentence("FETCH: the lift goes to the level")
    static void liftGoesBetweenLevels() {
        for (int from = 0; from < 4; from++) {
            for (int to = 0; to < 4; to++) {
                liftGoes(from, to);
            }
        }
    }

    private static void liftGoes(int from, int to) {
        ParkTower tower = towerWithLiftAt(to);
        if (from != to) {
            Scenes.leaveOnlyLevel(tower, from);
            Scenes.store(tower);
            tower.jam(to, false);
        }
        Check.same("the lift before", tower.look(4), from);
        tower.leave(19);
        tower.tick(5);
        int ticks = 3 * Math.abs(to - from);
        step(tower, ticks == 0 ? 1 : 0, ticks == 0 ? 4 : ticks - 1);
        if (ticks > 1) {
            tower.tick(ticks - 2);
            Check.same("where it was last", tower.look(4), from);
            tower.tick(1);
            step(tower, 1, 5);
        }
        Check.same("where it is", tower.look(4), to);
    }

    @Sentence("each MOVE of the plan (one step: 2 (c + 1) + 2 + d ticks for the cell it is from, and as many for "
            + "that it goes to; at the level)")
    static void movesOfThePlan() {
        ParkTower tower = new ParkTower();
        Scenes.levelWithTwoHiddenCells(tower);
        int wanted = tower.cell(3);
        int front = tower.cell(2);
        int first = tower.cell(0);
        tower.leave(wanted);
        tower.tick(5);
        step(tower, 1, 4 + 5 - 1);
        tower.tick(7);
        Check.same("not moved yet", tower.cell(0), first);
        tower.tick(1);
        Check.same("moved from 0 to 1", tower.cell(1), first);
        Check.same("0 is free", tower.cell(0), 0);
        step(tower, 2, 6 + 4);
        tower.tick(9);
        Check.same("not moved yet", tower.cell(2), front);
        tower.tick(1);
        Check.same("moved from 2 to 0", tower.cell(0), front);
        Check.same("2 is free", tower.cell(2), 0);
        step(tower, 3, 7);
    }

    @Sentence("the car is taken (as many; at the level)")
    static void takingFromTheFarthestCell() {
        ParkTower tower = new ParkTower();
        int[] tickets = Scenes.storeMany(tower, 23);
        tower.leave(tickets[22]);
        tower.tick(5);
        step(tower, 1, 15 - 1);
        tower.tick(13);
        Check.same("still in its cell", tower.cell(23), tickets[22]);
        tower.tick(1);
        Check.same("taken", tower.cell(23), 0);
        Check.same("a car less", tower.look(5), 22);
        Check.same("not in the bay yet", tower.bay(0, 2), 0);
    }

    @Sentence("the lift goes to level 0; the car is put into the bay (2 ticks; at the bay), whose door begins to open")
    static void carIsPutIntoTheBay() {
        ParkTower tower = towerWithLiftAt(2);
        tower.leave(19);
        tower.tick(9);
        step(tower, 2, 6);
        tower.tick(5);
        Check.same("where the lift was last", tower.look(4), 2);
        tower.tick(1);
        step(tower, 3, 2);
        Check.same("where it is", tower.look(4), 0);
        tower.tick(1);
        step(tower, 3, 1);
        Check.same("not in the bay yet", tower.bay(0, 2), 0);
        Check.same("the door is shut", tower.bay(0, 0), 0);
        tower.tick(1);
        Check.same("in the bay", tower.bay(0, 2), 19);
        Check.same("the door begins to open", tower.bay(0, 0), 1);
    }

    @Sentence("Steps of 0 ticks are passed over.")
    static void stepsOfNoTicks() {
        ParkTower tower = new ParkTower();
        Scenes.arriveSmall(tower, 0);
        tower.shut(0);
        tower.tick(4);
        step(tower, 1, 1);
        tower.tick(1);
        step(tower, 3, 5);
        tower.tick(20);
        tower.leave(19);
        tower.tick(5);
        step(tower, 1, 4);
        tower.tick(4);
        step(tower, 3, 2);
    }

    @Sentence("What a step does is done as it ends; the next one begins with the next tick.")
    static void nextStepBeginsWithTheNextTick() {
        ParkTower tower = new ParkTower();
        Scenes.arriveBig(tower, 0);
        tower.shut(0);
        tower.tick(5);
        step(tower, 2, 9);
        tower.tick(1);
        step(tower, 2, 8);
        tower.tick(8);
        step(tower, 3, 5);
        tower.tick(1);
        step(tower, 3, 4);
    }

    @Sentence("A step goes on by one in a tick when there is power")
    static void everyStepOfAStoreWaitsForPower() {
        ParkTower tower = towerWithLiftAt(1);
        Scenes.arriveBig(tower, 1);
        tower.shut(1);
        tower.tick(4);
        waitsForPower(tower, 0, 2);
        tower.tick(3);
        waitsForPower(tower, 1, 1);
        tower.tick(2);
        waitsForPower(tower, 2, 8);
        tower.tick(9);
        waitsForPower(tower, 3, 4);
        tower.tick(4);
        Check.same("stored", tower.cell(73), 27);
    }

    @Sentence("A step goes on by one in a tick when there is power")
    static void everyStepOfAFetchWaitsForPower() {
        ParkTower tower = new ParkTower();
        Scenes.leaveOnlyLevel(tower, 2);
        Scenes.storeMany(tower, 2);
        Scenes.leaveOnlyLevel(tower, 0);
        Scenes.store(tower);
        tower.jam(2, false);
        tower.leave(19);
        tower.tick(5);
        waitsForPower(tower, 0, 5);
        tower.tick(6);
        waitsForPower(tower, 1, 9);
        tower.tick(10);
        waitsForPower(tower, 2, 4);
        tower.tick(5);
        waitsForPower(tower, 3, 5);
        tower.tick(6);
        waitsForPower(tower, 4, 1);
        tower.tick(1);
        Check.same("fetched", tower.bay(0, 2), 19);
    }

    private static void waitsForPower(ParkTower tower, int ended, int left) {
        step(tower, ended, left);
        tower.power(false);
        tower.tick(20);
        step(tower, ended, left);
        tower.power(true);
        tower.tick(5);
        step(tower, ended, left);
    }

    @Sentence("at the bay when its door is shut and no person is in it")
    static void nobodyComesIntoTheBayOfAStep() {
        ParkTower tower = new ParkTower();
        Scenes.arriveSmall(tower, 0);
        tower.shut(0);
        tower.tick(4);
        Check.illegalState("into the bay of a store", () -> tower.person(0, true));
        tower.person(1, true);
        tower.tick(1);
        Check.same("a person in the other bay does not matter", tower.bay(0, 2), 0);
        tower.person(1, false);
        tower.tick(20);
        tower.leave(19);
        tower.tick(10);
        step(tower, 3, 1);
        Check.illegalState("into the bay of a fetch", () -> tower.person(0, true));
        tower.person(1, true);
        tower.tick(1);
        Check.same("it is fetched", tower.bay(0, 2), 19);
    }

    @Sentence("at the level when that is not jammed. Otherwise it waits.")
    static void puttingWaitsWhileTheLevelIsJammed() {
        ParkTower tower = new ParkTower();
        Scenes.arriveBig(tower, 0);
        tower.shut(0);
        tower.tick(18);
        step(tower, 3, 1);
        tower.jam(3, true);
        tower.tick(500);
        step(tower, 3, 1);
        Check.same("kept still", tower.cell(73), -1);
        tower.jam(2, true);
        tower.jam(3, false);
        tower.tick(1);
        Check.same("jammed no more, though another is", tower.cell(73), 19);
    }

    @Sentence("at the level when that is not jammed. Otherwise it waits.")
    static void movingAndTakingWaitWhileTheLevelIsJammed() {
        ParkTower tower = new ParkTower();
        int[] tickets = Scenes.storeMany(tower, 2);
        tower.leave(tickets[0]);
        tower.tick(5);
        step(tower, 1, 9);
        tower.jam(0, true);
        tower.tick(500);
        step(tower, 1, 9);
        tower.jam(0, false);
        tower.tick(10);
        step(tower, 2, 4);
        tower.jam(0, true);
        tower.tick(500);
        step(tower, 2, 4);
        tower.jam(0, false);
        tower.tick(4);
        step(tower, 4, 2);
    }

    @Sentence("at the level when that is not jammed. Otherwise it waits.")
    static void liftAndBayDoNotWaitForAJammedLevel() {
        ParkTower tower = towerWithLiftAt(3);
        Scenes.arriveBig(tower, 1);
        tower.jam(3, true);
        tower.shut(1);
        tower.tick(4 + 8);
        step(tower, 1, 2);
        tower.tick(2);
        step(tower, 2, 9);
        tower.tick(9);
        step(tower, 3, 4);
        tower.tick(100);
        step(tower, 3, 4);
        Check.same("the lift", tower.look(4), 3);
    }

    @Sentence("at the level when that is not jammed. Otherwise it waits.")
    static void carIsPutIntoTheBayThoughItsLevelIsJammed() {
        ParkTower tower = towerWithLiftAt(3);
        tower.leave(19);
        tower.tick(9);
        step(tower, 2, 9);
        tower.jam(3, true);
        tower.jam(0, true);
        tower.tick(9);
        step(tower, 3, 2);
        tower.tick(2);
        Check.same("in the bay", tower.bay(0, 2), 19);
    }
}
