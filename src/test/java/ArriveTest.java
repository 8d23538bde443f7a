/** Promise 2: arrive, with the cell that is found and the tickets. */
public final class ArriveTest {
    public static void main(String[] args) {
        wrongNumbers();
        sizesChooseTheLevel();
        answersInTheirOrder();
        cellsInTheirOrder();
        keptCellsAreNotFree();
        oneFreeCellIsTooFew();
        freeCellsBehindCarsAreNotFound();
        jammedLevelIsPassedOver();
        levelOfFetchIsPassedOver();
        levelOfStoreIsNot();
        at24Orders();
        ticketsLeaveSerialsOut();
        Check.end();
    }

    private static void wrongNumbers() {
        ParkTower tower = new ParkTower();
        for (int bay : Scenes.NO_BAYS) {
            Check.illegalArgument("arrive at bay " + bay, () -> tower.arrive(bay, 1, 1, 1));
        }
        for (int number : new int[] {0, -1, Integer.MIN_VALUE}) {
            Check.illegalArgument("length " + number, () -> tower.arrive(0, number, 1, 1));
            Check.illegalArgument("height " + number, () -> tower.arrive(0, 1, number, 1));
            Check.illegalArgument("weight " + number, () -> tower.arrive(0, 1, 1, number));
        }
        Check.same("nothing was given", tower.look(6), 0);
        Check.same("a car of 1, 1, 1", tower.arrive(1, 1, 1, 1), 19);
        Check.illegalArgument("a wrong number at a bay with a car", () -> tower.arrive(1, 0, 1, 1));
    }

    private static void sizesChooseTheLevel() {
        level(520, 160, 2000, 0);
        level(520, 160, 2001, 1);
        level(520, 160, 3000, 1);
        level(520, 161, 2000, 2);
        level(520, 210, 2000, 2);
        level(1, 161, 2001, 3);
        level(520, 210, 3000, 3);
        level(521, 1, 1, -3);
        level(1, 211, 1, -3);
        level(1, 1, 3001, -3);
        level(Integer.MAX_VALUE, 1, 1, -3);
        level(1, Integer.MAX_VALUE, 1, -3);
        level(1, 1, Integer.MAX_VALUE, -3);
    }

    private static void level(int length, int height, int weight, int due) {
        ParkTower tower = new ParkTower();
        int answer = tower.arrive(0, length, height, weight);
        String car = "car " + length + ", " + height + ", " + weight;
        if (due < 0) {
            Check.same(car, answer, due);
            return;
        }
        Check.same(car, answer, 19);
        for (int l = 0; l < 4; l++) {
            Check.same(car + " keeps 1 of level " + l, tower.cell(24 * l + 1), l == due ? -1 : 0);
            Check.same(car + " keeps 0 of level " + l, tower.cell(24 * l), l == due ? -1 : 0);
        }
    }

    private static void answersInTheirOrder() {
        ParkTower tower = new ParkTower();
        Check.same("a car comes", Scenes.arriveBig(tower, 0), 19);
        tower.shut(0);
        Check.same("-1 before -2", tower.arrive(0, 999, 999, 9999), -1);
        tower.shut(1);
        Check.same("-2 before -3", tower.arrive(1, 999, 999, 9999), -2);
        tower.person(1, true);
        Check.same("-2 while it opens", Scenes.arriveSmall(tower, 1), -2);
        tower.tick(4);
        tower.jam(3, true);
        tower.power(false);
        Check.same("-3 before -4", tower.arrive(1, 521, 210, 3000), -3);
        Check.same("-4 before -5", Scenes.arriveBig(tower, 1), -4);
        tower.jam(3, false);
        Check.same("-5", Scenes.arriveBig(tower, 1), -5);
        tower.power(true);
        Check.same("a person in the bay does not matter, nor the run", Scenes.arriveBig(tower, 1), 27);
    }

    private static void cellsInTheirOrder() {
        ParkTower tower = new ParkTower();
        int[] cells = {1, 0, 13, 12, 3, 2, 15, 14, 5, 4, 17, 16, 7, 6, 19, 18, 9, 8, 21, 20, 11, 10, 23, 25, 24, 37};
        for (int cell : cells) {
            int ticket = Scenes.store(tower);
            Check.same("the next cell", tower.cell(cell), ticket);
        }
        Check.same("the last cell of the level stays free", tower.cell(22), 0);
    }

    private static void keptCellsAreNotFree() {
        ParkTower tower = new ParkTower();
        Scenes.arriveSmall(tower, 0);
        Scenes.arriveSmall(tower, 1);
        Check.same("a kept cell of depth 1", tower.cell(13), -1);
        Check.same("kept in front of it", tower.cell(12), -1);
        Check.same("others are free", tower.cell(3), 0);
    }

    private static void oneFreeCellIsTooFew() {
        ParkTower tower = new ParkTower();
        for (int i = 0; i < 23; i++) {
            Check.same("big car " + i + " comes", Scenes.storeBig(tower) > 0 ? 1 : 0, 1);
        }
        Check.same("the last cell is free", tower.cell(72 + 22), 0);
        Check.same("but not given", Scenes.arriveBig(tower, 0), -4);
    }

    private static void freeCellsBehindCarsAreNotFound() {
        ParkTower tower = new ParkTower();
        int[] all = Scenes.levelWithHiddenCell(tower);
        Scenes.fetch(tower, all[2]);
        Check.same("the plan's first move", tower.cell(1), all[5]);
        Check.same("the plan's second move", tower.cell(0), all[3]);
        Check.same("two free cells", tower.cell(12) + tower.cell(13), 0);
        Scenes.fetch(tower, all[6]);
        Check.same("a car was moved in front of a free cell", tower.cell(12), all[7]);
        Check.same("the cell behind it", tower.cell(13), 0);
        int first = Scenes.store(tower);
        Check.same("of depth 1, with a free one in front", tower.cell(15), first);
        int second = Scenes.store(tower);
        Check.same("of depth 0, with a car behind", tower.cell(14), second);
        Check.same("level 1 now", tower.cell(25), 0);
        Scenes.store(tower);
        Check.same("a car on level 1", tower.cell(25) > 0 ? 1 : 0, 1);
    }

    private static void jammedLevelIsPassedOver() {
        ParkTower tower = new ParkTower();
        tower.jam(0, true);
        tower.jam(1, true);
        Scenes.arriveSmall(tower, 0);
        Check.same("level 2 is taken", tower.cell(49), -1);
        tower.jam(2, true);
        tower.jam(3, true);
        Check.same("all are jammed", Scenes.arriveSmall(tower, 1), -4);
        tower.jam(1, false);
        Check.same("one is not", Scenes.arriveSmall(tower, 1), 27);
        Check.same("level 1 is taken", tower.cell(25), -1);
    }

    private static void levelOfFetchIsPassedOver() {
        ParkTower tower = new ParkTower();
        int ticket = Scenes.store(tower);
        tower.leave(ticket);
        Scenes.arriveSmall(tower, 1);
        Check.same("a fetch that waits does not matter", tower.cell(0), -1);
        ParkTower other = new ParkTower();
        Scenes.store(other);
        other.leave(ticket);
        other.tick(10);
        Check.same("the fetch is at its last step", other.look(2), 3);
        Check.same("its car has left the cell", other.cell(1), 0);
        Scenes.arriveSmall(other, 1);
        Check.same("level 0 is passed over", other.cell(1), 0);
        Check.same("level 1 is taken", other.cell(25), -1);
        ParkTower third = new ParkTower();
        Scenes.storeBig(third);
        third.leave(ticket);
        third.tick(10);
        Check.same("the only level is passed over", Scenes.arriveBig(third, 1), -4);
        third.tick(30);
        Check.same("after the fetch", Scenes.arriveBig(third, 1), 27);
    }

    private static void levelOfStoreIsNot() {
        ParkTower tower = new ParkTower();
        Scenes.arriveSmall(tower, 0);
        tower.shut(0);
        tower.tick(4);
        Check.same("a store is being done", tower.look(1), 19);
        Scenes.arriveSmall(tower, 1);
        Check.same("its level is taken", tower.cell(13), -1);
    }

    private static void at24Orders() {
        ParkTower tower = new ParkTower();
        int[] tickets = Scenes.storeMany(tower, 26);
        for (int i = 0; i < 23; i++) {
            tower.leave(tickets[i]);
        }
        Check.same("23 orders", tower.look(0), 23);
        Check.same("the 24th", Scenes.arriveSmall(tower, 0) > 0 ? 1 : 0, 1);
        Check.same("a car without an order is counted", Scenes.arriveSmall(tower, 1), -6);
        Check.same("it is no order yet", tower.look(0), 23);
        tower.power(false);
        Check.same("-5 before -6", Scenes.arriveSmall(tower, 1), -5);
        Check.same("no serial was used up", tower.look(6), tower.bay(0, 2) / 10);
        ParkTower other = new ParkTower();
        Scenes.storeMany(other, 24);
        for (int i = 0; i < 24; i++) {
            other.leave(tickets[i]);
        }
        Check.same("24 orders to fetch", Scenes.arriveSmall(other, 1), -6);
        other.jam(0, true);
        other.jam(1, true);
        other.jam(2, true);
        other.jam(3, true);
        Check.same("-4 before -6", Scenes.arriveSmall(other, 1), -4);
    }

    private static void ticketsLeaveSerialsOut() {
        ParkTower tower = new ParkTower();
        int[] tickets = Scenes.storeMany(tower, 24);
        int[] due = {19, 27, 35, 43, 51, 78, 86, 94, 108, 116, 124, 132, 140, 159, 167, 175, 183, 191, 205, 213,
            221, 248, 256, 264};
        for (int i = 0; i < due.length; i++) {
            Check.same("ticket " + i, tickets[i], due[i]);
        }
        for (int i = 24; i < 92; i++) {
            tickets = new int[] {Scenes.store(tower)};
        }
        Check.same("a serial of three digits", tower.look(6), tickets[0] / 10);
        Check.same("its check digit", (4 * 1 + 3 * (tickets[0] / 100 % 10) + 2 * (tickets[0] / 10 % 10)
                + tickets[0] % 10) % 11, 0);
        Check.same("the tower is full but for a cell a level", tower.look(5), 92);
        Check.same("no cell is found", Scenes.arriveSmall(tower, 0), -4);
    }
}
