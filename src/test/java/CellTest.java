/** Promise 10: cell. */
public final class CellTest {
    public static void main(String[] args) {
        ParkTower tower = new ParkTower();
        for (int cell : new int[] {-1, 96, Integer.MIN_VALUE, Integer.MAX_VALUE}) {
            Check.illegalArgument("cell " + cell, () -> tower.cell(cell));
        }
        Check.same("the first cell", tower.cell(0), 0);
        Check.same("the last cell", tower.cell(95), 0);
        keptAndFilled();
        keptInFrontOfACar();
        Check.end();
    }

    private static void keptAndFilled() {
        ParkTower tower = new ParkTower();
        Scenes.arriveBig(tower, 0);
        Check.same("kept", tower.cell(73), -1);
        Check.same("kept in front", tower.cell(72), -1);
        Check.same("not the next", tower.cell(85), 0);
        tower.shut(0);
        tower.tick(60);
        Check.same("the car", tower.cell(73), 19);
        Check.same("free in front", tower.cell(72), 0);
        Scenes.fetch(tower, 19);
        Check.same("free again", tower.cell(73), 0);
    }

    private static void keptInFrontOfACar() {
        ParkTower tower = new ParkTower();
        int behind = Scenes.store(tower);
        int front = Scenes.arriveSmall(tower, 1);
        Check.same("the car behind", tower.cell(1), behind);
        Check.same("kept before it", tower.cell(0), -1);
        Check.same("the car behind is reached", tower.plan(behind, -1), 0);
        Scenes.fetch(tower, behind);
        Check.same("fetched past the kept cell", tower.cell(1), 0);
        Check.same("which is kept still", tower.cell(0), -1);
        tower.shut(1);
        tower.tick(60);
        Check.same("filled", tower.cell(0), front);
        Check.same("the cell behind it is free", tower.cell(1), 0);
    }
}
