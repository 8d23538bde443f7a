/** CELLS: their numbers, which are reached, and the cars that a level takes. */
public final class CellEdgesTest {
    public static void main(String[] args) {
        Sentences.test(CellEdgesTest.class);
    }

    @Sentence("CELLS 0 .. 95")
    static void firstAndLastCell() {
        ParkTower tower = new ParkTower();
        Check.illegalArgument("below the first", () -> tower.cell(-1));
        Check.same("the first", tower.cell(0), 0);
        Check.same("the last", tower.cell(95), 0);
        Check.illegalArgument("above the last", () -> tower.cell(96));
    }

    @Sentence("cell 24 l + 12 r + 2 c + d is in LEVEL l (0 .. 3), row r (0, 1), COLUMN c (0 .. 5), "
            + "DEPTH d (0 in front, 1 behind)")
    static void eachLevelFromItsFirstCellToItsLast() {
        for (int level = 0; level < 4; level++) {
            ParkTower tower = new ParkTower();
            Scenes.leaveOnlyLevel(tower, level);
            int[] tickets = Scenes.storeMany(tower, 23);
            for (int i = 0; i < 23; i++) {
                int cell = 24 * level + 12 * (i / 2 % 2) + 2 * (i / 4) + 1 - i % 2;
                Check.same("car " + i + " in cell " + cell, tower.cell(cell), tickets[i]);
            }
            Check.same("its one free cell", tower.cell(24 * level + 22), 0);
        }
    }

    @Sentence("Each is free, has a car, or is KEPT.")
    static void freeThenKeptThenWithACar() {
        ParkTower tower = new ParkTower();
        Check.same("free", tower.cell(1), 0);
        int ticket = Scenes.arriveSmall(tower, 0);
        Check.same("kept", tower.cell(1), -1);
        tower.shut(0);
        tower.tick(60);
        Check.same("with a car", tower.cell(1), ticket);
        Scenes.fetch(tower, ticket);
        Check.same("free again", tower.cell(1), 0);
    }

    @Sentence("A cell is REACHED when it is in front")
    static void inFrontIsReached() {
        ParkTower tower = new ParkTower();
        int[] tickets = Scenes.storeMany(tower, 2);
        Check.same("in front of a car", tower.plan(tickets[1], -1), 0);
        ParkTower other = new ParkTower();
        int alone = Scenes.storeInFrontOfFreeCell(other);
        Check.same("in front of a free cell", other.plan(alone, -1), 0);
    }

    @Sentence("or the one in front of it has no car")
    static void behindNoCarIsReached() {
        ParkTower tower = new ParkTower();
        int behind = Scenes.store(tower);
        Check.same("behind a free cell", tower.plan(behind, -1), 0);
        Scenes.arriveSmall(tower, 0);
        Check.same("kept in front", tower.cell(0), -1);
        Check.same("behind a kept cell", tower.plan(behind, -1), 0);
        tower.shut(0);
        tower.tick(60);
        Check.same("behind a car it is not", tower.plan(behind, -1), 1);
    }

    @Sentence("A car is up to 520 long")
    static void longestCar() {
        Check.same("the shortest", new ParkTower().arrive(0, 1, 150, 1500), 19);
        Check.same("the longest", new ParkTower().arrive(0, 520, 150, 1500), 19);
        Check.same("too long", new ParkTower().arrive(0, 521, 150, 1500), -3);
        Check.same("the greatest length", new ParkTower().arrive(0, Integer.MAX_VALUE, 150, 1500), -3);
        Check.same("the longest for level 3", new ParkTower().arrive(0, 520, 210, 3000), 19);
        Check.same("too long for level 3", new ParkTower().arrive(0, 521, 210, 3000), -3);
    }

    @Sentence("levels 0, 1 take cars up to 160 high")
    static void highestCarOfTheLowLevels() {
        level(160, 2000, 0);
        level(161, 2000, 2);
        level(160, 2001, 1);
        level(161, 2001, 3);
        onlyLevel(0, 160, 1, true);
        onlyLevel(0, 161, 1, false);
        onlyLevel(1, 160, 1, true);
        onlyLevel(1, 161, 1, false);
    }

    @Sentence("2, 3 up to 210")
    static void highestCarOfTheHighLevels() {
        onlyLevel(2, 210, 1, true);
        onlyLevel(3, 210, 1, true);
        Check.same("too high", new ParkTower().arrive(0, 400, 211, 1), -3);
        Check.same("the greatest height", new ParkTower().arrive(0, 400, Integer.MAX_VALUE, 1), -3);
    }

    @Sentence("levels 0, 2 up to 2,000 heavy")
    static void heaviestCarOfTheEvenLevels() {
        level(150, 2000, 0);
        level(150, 2001, 1);
        level(200, 2000, 2);
        level(200, 2001, 3);
        onlyLevel(0, 1, 2000, true);
        onlyLevel(0, 1, 2001, false);
        onlyLevel(2, 1, 2000, true);
        onlyLevel(2, 1, 2001, false);
    }

    @Sentence("1, 3 up to 3,000")
    static void heaviestCarOfTheOddLevels() {
        onlyLevel(1, 1, 3000, true);
        onlyLevel(3, 1, 3000, true);
        Check.same("too heavy", new ParkTower().arrive(0, 400, 1, 3001), -3);
        Check.same("the greatest weight", new ParkTower().arrive(0, 400, 1, Integer.MAX_VALUE), -3);
    }

    @Sentence("A car FITS a level that takes it.")
    static void fitsByHeightAndWeightTogether() {
        level(161, 2001, 3);
        onlyLevel(1, 161, 2001, false);
        onlyLevel(2, 161, 2001, false);
        onlyLevel(3, 1, 1, true);
    }

    private static void level(int height, int weight, int due) {
        ParkTower tower = new ParkTower();
        tower.arrive(0, 520, height, weight);
        Check.same("level of a car " + height + " high, " + weight + " heavy", Scenes.levelKept(tower), due);
    }

    private static void onlyLevel(int level, int height, int weight, boolean fits) {
        ParkTower tower = new ParkTower();
        Scenes.leaveOnlyLevel(tower, level);
        Check.same("level " + level + " alone, a car " + height + " high, " + weight + " heavy",
                tower.arrive(0, 520, height, weight), fits ? 19 : -4);
    }
}
