/** A CELL for a car: which level, which cell, and how long it is kept. */
public final class ChoiceEdgesTest {
    public static void main(String[] args) {
        Sentences.test(ChoiceEdgesTest.class);
    }

    @Sentence("A CELL for a car is found as it comes")
    static void foundAsItComes() {
        ParkTower tower = new ParkTower();
        Scenes.arriveSmall(tower, 0);
        tower.jam(0, true);
        Scenes.arriveSmall(tower, 1);
        tower.jam(0, false);
        tower.shut(1);
        tower.shut(0);
        tower.tick(60);
        Check.same("found before the jam", tower.cell(1), 19);
        Check.same("found while level 0 was jammed", tower.cell(25), 27);
    }

    @Sentence("of the levels that it fits, are not jammed")
    static void jammedLevelsArePassedOver() {
        for (int level = 0; level < 4; level++) {
            ParkTower tower = new ParkTower();
            Scenes.leaveOnlyLevel(tower, level);
            Scenes.arriveSmall(tower, 0);
            Check.same("the only level", Scenes.levelKept(tower), level);
            tower.jam(level, true);
            Check.same("all are jammed", Scenes.arriveSmall(tower, 1), -4);
        }
    }

    @Sentence("on which no FETCH is being done")
    static void levelOfAFetchFromItsBeginToItsEnd() {
        Check.same("a tick before it begins", levelAtTickOfAFetch(4), 0);
        Check.same("as it begins", levelAtTickOfAFetch(5), 1);
        Check.same("a tick before it ends", levelAtTickOfAFetch(9), 1);
        Check.same("as it ends", levelAtTickOfAFetch(10), 0);
    }

    /** The level of a car that comes so many ticks behind the leave() of a car in cell 0. */
    private static int levelAtTickOfAFetch(int ticks) {
        ParkTower tower = new ParkTower();
        int[] tickets = Scenes.storeMany(tower, 2);
        tower.leave(tickets[1]);
        tower.tick(ticks);
        int before = keptCells(tower, 0);
        Scenes.arriveSmall(tower, 1);
        return keptCells(tower, 0) > before ? 0 : 1;
    }

    @Sentence("on which no FETCH is being done")
    static void levelOfAStoreIsNotPassedOver() {
        ParkTower tower = new ParkTower();
        Scenes.arriveSmall(tower, 0);
        tower.shut(0);
        tower.tick(8);
        Check.same("it is being stored", tower.look(1), 19);
        Scenes.arriveSmall(tower, 1);
        Check.same("the next cells of its level", tower.cell(13) + tower.cell(12), -2);
    }

    @Sentence("on which no FETCH is being done")
    static void onlyLevelWithAFetchGivesNone() {
        ParkTower tower = new ParkTower();
        int ticket = Scenes.storeBig(tower);
        tower.leave(ticket);
        tower.tick(5);
        Check.same("the fetch has begun", tower.look(1), ticket);
        Check.same("no cell is found", Scenes.arriveBig(tower, 1), -4);
        Check.same("one that fits others", Scenes.arriveSmall(tower, 1), 27);
    }

    @Sentence("and that have two free cells at least")
    static void twoFreeCellsAreEnough() {
        ParkTower tower = new ParkTower();
        Scenes.leaveOnlyLevel(tower, 2);
        Scenes.storeMany(tower, 22);
        Check.same("two are free", tower.cell(70) + tower.cell(71), 0);
        Check.same("a car comes", Scenes.arriveSmall(tower, 0) > 0 ? 1 : 0, 1);
        Check.same("both are kept", tower.cell(70) + tower.cell(71), -2);
    }

    @Sentence("and that have two free cells at least")
    static void oneFreeCellIsTooFew() {
        ParkTower tower = new ParkTower();
        Scenes.leaveOnlyLevel(tower, 2);
        Scenes.storeMany(tower, 23);
        Check.same("a free cell with a car behind it", tower.cell(70), 0);
        Check.same("no car comes", Scenes.arriveSmall(tower, 0), -4);
        tower.jam(3, false);
        Check.same("another level has more", Scenes.arriveSmall(tower, 0) > 0 ? 1 : 0, 1);
        Check.same("which is taken", Scenes.levelKept(tower), 3);
    }

    @Sentence("and that have two free cells at least")
    static void keptCellsAreNotFree() {
        ParkTower tower = new ParkTower();
        Scenes.leaveOnlyLevel(tower, 2);
        Scenes.storeMany(tower, 21);
        Scenes.arriveSmall(tower, 0);
        Check.same("one is kept, two are free", tower.cell(58), -1);
        tower.person(0, true);
        Check.same("two are enough", Scenes.arriveSmall(tower, 1) > 0 ? 1 : 0, 1);
        ParkTower other = new ParkTower();
        Scenes.leaveOnlyLevel(other, 2);
        Scenes.storeMany(other, 22);
        Scenes.arriveSmall(other, 0);
        Check.same("two are kept, none is free", Scenes.arriveSmall(other, 1), -4);
    }

    @Sentence("the lowest that has such a one")
    static void levelWhoseFreeCellsAreBehindCarsHasNone() {
        ParkTower tower = new ParkTower();
        Scenes.levelWithTwoHiddenCells(tower);
        Check.same("two free cells", tower.cell(1) + tower.cell(13), 0);
        Check.same("no more", freeCells(tower, 0), 2);
        Scenes.arriveSmall(tower, 0);
        Check.same("the next level is taken", Scenes.levelKept(tower), 1);
        ParkTower other = new ParkTower();
        Scenes.leaveOnlyLevel(other, 0);
        Scenes.levelWithTwoHiddenCells(other);
        Check.same("no other level", Scenes.arriveSmall(other, 0), -4);
    }

    @Sentence("by columns, then rows, then depth 1 before 0")
    static void columnsThenRowsThenDepth() {
        ParkTower tower = new ParkTower();
        int[] due = {1, 0, 13, 12, 3, 2};
        for (int cell : due) {
            Scenes.arriveSmall(tower, 0);
            Check.same("cell " + cell + " is next", tower.cell(cell), -1);
            tower.shut(0);
            tower.tick(60);
        }
    }

    @Sentence("by columns, then rows, then depth 1 before 0")
    static void freedCellOfAnEarlierColumnIsFirst() {
        ParkTower tower = new ParkTower();
        int[] tickets = Scenes.storeMany(tower, 6);
        Scenes.fetch(tower, tickets[3]);
        Scenes.arriveSmall(tower, 0);
        Check.same("cell 12 of column 0 before 15 of column 1", tower.cell(12), -1);
        Scenes.arriveSmall(tower, 1);
        Check.same("then 15", tower.cell(15), -1);
    }

    @Sentence("the first cell that is free and, of depth 1, with a free one in front")
    static void cellBehindAKeptOneIsNotTaken() {
        ParkTower tower = new ParkTower();
        int behind = Scenes.store(tower);
        Scenes.arriveSmall(tower, 1);
        Scenes.fetch(tower, behind);
        Check.same("free, and kept in front", 10 * tower.cell(1) + tower.cell(0), -1);
        Scenes.arriveSmall(tower, 0);
        Check.same("not taken", tower.cell(1), 0);
        Check.same("but the next", tower.cell(13), -1);
    }

    @Sentence("the first cell that is free and, of depth 1, with a free one in front")
    static void cellBehindACarIsNotTaken() {
        ParkTower tower = new ParkTower();
        int front = Scenes.storeInFrontOfFreeCell(tower);
        Check.same("a car in front", tower.cell(0), front);
        Scenes.arriveSmall(tower, 0);
        Check.same("not taken", tower.cell(1), 0);
        Check.same("but the next", tower.cell(13), -1);
    }

    @Sentence("of depth 0, with a car behind it")
    static void cellInFrontOfACarIsTaken() {
        ParkTower tower = new ParkTower();
        int behind = Scenes.store(tower);
        Scenes.arriveSmall(tower, 1);
        Check.same("kept", tower.cell(0), -1);
        Check.same("the car behind stays", tower.cell(1), behind);
        ParkTower other = new ParkTower();
        Scenes.arriveSmall(other, 1);
        Scenes.arriveSmall(other, 0);
        Check.same("kept behind, so none in front of it is taken", other.cell(13), -1);
    }

    @Sentence("It is KEPT for it until the car is in it")
    static void keptToTheLastTick() {
        ParkTower tower = new ParkTower();
        Scenes.store(tower);
        Scenes.arriveSmall(tower, 0);
        tower.shut(0);
        tower.tick(8);
        Check.same("a tick before", tower.cell(0), -1);
        Check.same("no car more", tower.look(5), 1);
        tower.tick(1);
        Check.same("the car", tower.cell(0), 27);
        Check.same("is in it", tower.look(5), 2);
    }

    @Sentence("and so is the one in front of a cell of depth 1")
    static void keptInFrontToTheLastTick() {
        ParkTower tower = new ParkTower();
        Scenes.arriveSmall(tower, 0);
        Check.same("at once", tower.cell(0), -1);
        tower.shut(0);
        tower.tick(9);
        Check.same("a tick before", tower.cell(0), -1);
        tower.tick(1);
        Check.same("free", tower.cell(0), 0);
    }

    @Sentence("and so is the one in front of a cell of depth 1")
    static void nothingIsKeptBehindACellOfDepthNought() {
        ParkTower tower = new ParkTower();
        int behind = Scenes.store(tower);
        Scenes.arriveSmall(tower, 0);
        Check.same("the car behind", tower.cell(1), behind);
        Check.same("one cell is kept", keptCells(tower, 0), 1);
        tower.shut(0);
        tower.tick(60);
        Check.same("the car behind still", tower.cell(1), behind);
    }

    private static int keptCells(ParkTower tower, int level) {
        return cellsWith(tower, level, -1);
    }

    private static int freeCells(ParkTower tower, int level) {
        return cellsWith(tower, level, 0);
    }

    private static int cellsWith(ParkTower tower, int level, int what) {
        int count = 0;
        for (int cell = 24 * level; cell < 24 * level + 24; cell++) {
            count += tower.cell(cell) == what ? 1 : 0;
        }
        return count;
    }
}
