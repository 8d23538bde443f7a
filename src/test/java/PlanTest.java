/** Promise 11: plan. */
public final class PlanTest {
    public static void main(String[] args) {
        wrongTickets();
        carsNotInACell();
        noMoves();
        oneMove();
        behindAKeptCell();
        twoMoves();
        leastOfTwoMoves();
        noPlan();
        askedForDuringTheFetch();
        Check.end();
    }

    private static void wrongTickets() {
        ParkTower tower = new ParkTower();
        Check.illegalArgument("nothing was given", () -> tower.plan(19, -1));
        Scenes.store(tower);
        for (int ticket : new int[] {0, -19, 9, 18, 10, 27, 1019, Integer.MAX_VALUE, Integer.MIN_VALUE}) {
            Check.illegalArgument("plan of " + ticket, () -> tower.plan(ticket, -1));
        }
        Check.illegalArgument("before a wrong move", () -> tower.plan(27, 9));
    }

    private static void carsNotInACell() {
        ParkTower tower = new ParkTower();
        Scenes.arriveSmall(tower, 0);
        Check.illegalState("in the bay", () -> tower.plan(19, -1));
        Check.illegalState("before a wrong move", () -> tower.plan(19, 9));
        tower.shut(0);
        tower.tick(60);
        Scenes.fetch(tower, 19);
        Check.illegalState("gone", () -> tower.plan(19, -1));
    }

    private static void noMoves() {
        ParkTower tower = new ParkTower();
        Scenes.storeMany(tower, 2);
        Check.same("in front", tower.plan(27, -1), 0);
        for (int i : new int[] {-2, 0, 1, Integer.MIN_VALUE, Integer.MAX_VALUE}) {
            Check.outOfBounds("move " + i + " of none", () -> tower.plan(27, i));
        }
    }

    private static void oneMove() {
        ParkTower tower = new ParkTower();
        int[] tickets = Scenes.storeMany(tower, 5);
        Check.same("one move", tower.plan(tickets[0], -1), 1);
        Check.same("from 0 to the least free one", tower.plan(tickets[0], 0), 2);
        Check.same("from 12 to the least free one", tower.plan(tickets[2], 0), 1202);
        Check.outOfBounds("a second move", () -> tower.plan(tickets[0], 1));
        Check.outOfBounds("move -2", () -> tower.plan(tickets[0], -2));
        ParkTower high = new ParkTower();
        int back = Scenes.storeBig(high);
        Scenes.storeBig(high);
        Check.same("on level 3", high.plan(back, 0), 7274);
        high.arrive(1, 400, 210, 3000);
        Check.same("a cell that is kept elsewhere does not matter", high.plan(back, 0), 7274);
    }

    private static void behindAKeptCell() {
        ParkTower tower = new ParkTower();
        int[] tickets = Scenes.storeMany(tower, 23);
        Scenes.fetch(tower, tickets[1]);
        Check.same("cells 0 and 22 are free", tower.cell(0) + tower.cell(22), 0);
        Scenes.arriveSmall(tower, 1);
        Check.same("cell 0 is kept", tower.cell(0), -1);
        Scenes.fetch(tower, tickets[0]);
        Check.same("behind it, 1 is free and reached", tower.plan(tickets[2], 0), 1201);
    }

    private static void twoMoves() {
        ParkTower tower = new ParkTower();
        int[] tickets = Scenes.levelWithHiddenCell(tower);
        Check.same("two moves", tower.plan(tickets[2], -1), 2);
        Check.same("one steps back", tower.plan(tickets[2], 0), 1);
        Check.same("one takes its place", tower.plan(tickets[2], 1), 1200);
        Check.outOfBounds("a third", () -> tower.plan(tickets[2], 2));
        Check.same("a car in front needs none", tower.plan(tickets[3], -1), 0);
    }

    private static void leastOfTwoMoves() {
        ParkTower tower = new ParkTower();
        int[] tickets = Scenes.levelWithHiddenCell(tower);
        Scenes.fetch(tower, tickets[2]);
        Scenes.fetch(tower, tickets[6]);
        Scenes.storeMany(tower, 2);
        Check.same("the only free cell is 13, behind 12", tower.cell(13), 0);
        Check.same("so 12 steps back", tower.plan(tickets[8], 0), 1213);
        Check.same("and 4 takes its place", tower.plan(tickets[8], 1), 412);
    }

    private static void noPlan() {
        ParkTower tower = new ParkTower();
        for (int i = 0; i < 22; i++) {
            Scenes.storeBig(tower);
        }
        int back = tower.cell(73);
        Check.same("one move", tower.plan(back, 0), 7294);
        Scenes.arriveBig(tower, 1);
        Check.same("the last two cells are kept", tower.cell(94) + tower.cell(95), -2);
        Check.same("no plan", tower.plan(back, -1), -1);
        Check.outOfBounds("a move of no plan", () -> tower.plan(back, 0));
        Check.same("a car in front has one", tower.plan(tower.cell(72), -1), 0);
        tower.leave(back);
        tower.tick(100);
        Check.same("the order waits for a plan", tower.look(1), 0);
        Check.same("behind a shut door", tower.bay(0, 0), 0);
        tower.shut(1);
        tower.tick(100);
        Check.same("stored, so there is a plan, and it is fetched", tower.bay(0, 2), back);
    }

    private static void askedForDuringTheFetch() {
        ParkTower tower = new ParkTower();
        int[] tickets = Scenes.storeMany(tower, 3);
        tower.leave(tickets[0]);
        tower.tick(5);
        Check.same("before the move", tower.plan(tickets[0], 0), 2);
        Check.same("the plan of another in between", tower.plan(tickets[2], -1), 0);
        tower.tick(10);
        Check.same("behind the move", tower.plan(tickets[0], -1), 0);
        Check.same("where it went", tower.cell(2), tickets[1]);
    }
}
