/** THE PLAN: of no move, one and two, of several the first, and none. */
public final class PlanEdgesTest {
    public static void main(String[] args) {
        Sentences.test(PlanEdgesTest.class);
    }

    private static void plan(ParkTower tower, int ticket, int... moves) {
        Check.same("moves", tower.plan(ticket, -1), moves.length);
        for (int i = 0; i < moves.length; i++) {
            Check.same("move " + i, tower.plan(ticket, i), moves[i]);
        }
        Check.outOfBounds("a move more", () -> tower.plan(ticket, moves.length));
        Check.outOfBounds("a move before the first", () -> tower.plan(ticket, -2));
    }

    @Sentence("THE PLAN of a car is the least row of moves")
    static void noMoveOneMoveTwoMoves() {
        ParkTower tower = new ParkTower();
        int[] tickets = Scenes.storeMany(tower, 4);
        plan(tower, tickets[1]);
        plan(tower, tickets[0], 2);
        plan(tower, tickets[2], 1202);
        ParkTower full = new ParkTower();
        Scenes.levelWithTwoHiddenCells(full);
        plan(full, full.cell(3), 1, 200);
    }

    @Sentence("(of other cars of its level")
    static void otherLevelsDoNotHelp() {
        for (int level = 0; level < 4; level++) {
            ParkTower tower = new ParkTower();
            Scenes.leaveOnlyLevel(tower, level);
            int[] tickets = Scenes.storeMany(tower, 22);
            int base = 24 * level;
            plan(tower, tickets[0], 100 * base + base + 22);
            Scenes.arriveSmall(tower, 0);
            Check.same("the level is full, the others are empty", tower.plan(tickets[0], -1), -1);
        }
    }

    @Sentence("(of other cars of its level")
    static void firstCellOfTheNextLevelDoesNotHelp() {
        for (int level = 0; level < 4; level++) {
            ParkTower tower = new ParkTower();
            Scenes.leaveOnlyLevel(tower, level);
            int[] tickets = Scenes.storeMany(tower, 23);
            int base = 24 * level;
            Scenes.fetch(tower, tickets[0]);
            Check.same("the last cell but one was filled", tower.cell(base + 22), tickets[1]);
            Scenes.arriveSmall(tower, 0);
            Check.same("the first two are kept", tower.cell(base) + tower.cell(base + 1), -2);
            Check.same("no plan of a car behind another", tower.plan(tickets[2], -1), -1);
            Check.same("nor of the one in the last cell", tower.plan(tickets[22], -1), -1);
        }
    }

    @Sentence("from a cell that is reached")
    static void carsInFrontAreMovedAlone() {
        ParkTower tower = new ParkTower();
        Scenes.levelWithTwoHiddenCells(tower);
        for (int cell = 0; cell < 24; cell++) {
            int ticket = tower.cell(cell);
            int moves = ticket > 0 ? tower.plan(ticket, -1) : 0;
            for (int i = 0; i < moves; i++) {
                Check.same("the depth it is from", tower.plan(ticket, i) / 100 % 2, 0);
            }
        }
    }

    @Sentence("and has no kept one behind it)")
    static void keptPairIsNoGoal() {
        ParkTower tower = new ParkTower();
        Scenes.arriveSmall(tower, 1);
        int behind = Scenes.store(tower);
        Scenes.store(tower);
        Check.same("0 and 1 are kept", tower.cell(0) + tower.cell(1), -2);
        plan(tower, behind, 1202);
        tower.shut(1);
        tower.tick(60);
        Check.same("0 is free", tower.cell(0), 0);
        plan(tower, behind, 1200);
    }

    @Sentence("to a free one that is reached")
    static void keptCellsAreNoGoals() {
        ParkTower tower = new ParkTower();
        int[] tickets = Scenes.storeMany(tower, 4);
        plan(tower, tickets[0], 2);
        Scenes.arriveSmall(tower, 0);
        Check.same("2 and 3 are kept", tower.cell(2) + tower.cell(3), -2);
        plan(tower, tickets[0], 4);
        Scenes.arriveSmall(tower, 1);
        Check.same("14 and 15 are kept", tower.cell(14) + tower.cell(15), -2);
        plan(tower, tickets[2], 1204);
    }

    @Sentence("to a free one that is reached")
    static void cellBehindACarIsNoGoal() {
        ParkTower tower = new ParkTower();
        Scenes.storeInFrontOfFreeCell(tower);
        int behind = Scenes.store(tower);
        Scenes.store(tower);
        Check.same("free behind a car", tower.cell(1), 0);
        plan(tower, behind, 1202);
    }

    @Sentence("to a free one that is reached")
    static void cellBehindAKeptOneIsAGoal() {
        ParkTower tower = new ParkTower();
        int first = Scenes.store(tower);
        Scenes.arriveSmall(tower, 1);
        int behind = Scenes.store(tower);
        Scenes.store(tower);
        Scenes.fetch(tower, first);
        Check.same("free, and kept in front", 10 * tower.cell(1) + tower.cell(0), -1);
        plan(tower, behind, 1201);
        Scenes.fetch(tower, behind);
        Check.same("moved behind the kept one", tower.cell(1) > 0 ? 1 : 0, 1);
        Check.same("which is kept still", tower.cell(0), -1);
    }

    @Sentence("that is reached when the car is away")
    static void carStepsBackIntoTheCellBehindIt() {
        ParkTower tower = new ParkTower();
        int[] tickets = Scenes.levelWithHiddenCell(tower);
        Check.same("the one free cell is behind a car", tower.cell(1), 0);
        plan(tower, tickets[2], 1, 1200);
    }

    @Sentence("that is reached when the car is away")
    static void carOfAHigherLevelAndALaterColumnStepsBack() {
        ParkTower tower = new ParkTower();
        Scenes.leaveOnlyLevel(tower, 3);
        int[] tickets = Scenes.storeMany(tower, 4);
        Scenes.storeInFrontOfFreeCell(tower);
        Scenes.storeMany(tower, 18);
        Check.same("the one free cell", tower.cell(75), 0);
        Check.same("is behind a car", tower.cell(74) > 0 ? 1 : 0, 1);
        Check.same("all others have cars", tower.look(5), 23);
        plan(tower, tickets[0], 7475, 7274);
        plan(tower, tower.cell(95), 7475, 9474);
    }

    @Sentence("behind which it is reached")
    static void reachedWithoutAMove() {
        ParkTower tower = new ParkTower();
        int ticket = Scenes.store(tower);
        plan(tower, ticket);
        Scenes.arriveSmall(tower, 0);
        plan(tower, ticket);
    }

    @Sentence("of several the one whose first move has the least cell it is from")
    static void leastCellToComeFrom() {
        ParkTower tower = new ParkTower();
        Scenes.levelWithTwoHiddenCells(tower);
        Check.same("both 0 and 12 could step back", tower.cell(1) + tower.cell(13), 0);
        plan(tower, tower.cell(11), 1, 1000);
        plan(tower, tower.cell(23), 1, 2200);
    }

    @Sentence("then the least it goes to")
    static void leastCellToGoTo() {
        ParkTower tower = new ParkTower();
        int[] tickets = Scenes.storeMany(tower, 8);
        plan(tower, tickets[0], 4);
        Scenes.fetch(tower, tickets[7]);
        plan(tower, tickets[0], 4);
        Scenes.fetch(tower, tickets[5]);
        plan(tower, tickets[0], 2);
        plan(tower, tickets[2], 1202);
    }

    @Sentence("then so its second one")
    static void secondMoveGoesToTheCellThatTheFirstHasLeft() {
        ParkTower tower = new ParkTower();
        Scenes.levelWithTwoHiddenCells(tower);
        int[] columns = {2, 4, 6, 8, 10, 14, 16, 18, 20, 22};
        for (int front : columns) {
            plan(tower, tower.cell(front + 1), 1, 100 * front);
        }
    }

    @Sentence("It is made when the order begins")
    static void madeNotWhenItIsAskedForButWhenItBegins() {
        ParkTower tower = new ParkTower();
        int[] tickets = Scenes.storeMany(tower, 4);
        tower.leave(tickets[0]);
        plan(tower, tickets[0], 2);
        tower.tick(4);
        Scenes.arriveSmall(tower, 1);
        Check.same("2 is kept before it begins", tower.cell(2), -1);
        tower.tick(1);
        Check.same("it begins", tower.look(1), tickets[0]);
        Check.same("4 + 6 ticks to move from 0 to 4", tower.look(3), 4 + 8 - 1);
        tower.tick(11);
        Check.same("moved to 4", tower.cell(4), tickets[1]);
    }

    @Sentence("and as often as it is asked for")
    static void askedForAgainAndAgain() {
        ParkTower tower = new ParkTower();
        int[] tickets = Scenes.storeMany(tower, 3);
        plan(tower, tickets[0], 2);
        plan(tower, tickets[2]);
        plan(tower, tickets[0], 2);
        tower.leave(tickets[0]);
        tower.tick(10);
        plan(tower, tickets[2]);
        plan(tower, tickets[0], 2);
        tower.tick(4);
        Check.same("moved as planned", tower.cell(2), tickets[1]);
        plan(tower, tickets[0]);
    }

    @Sentence("-1 when there is no plan")
    static void fullLevelHasNone() {
        ParkTower tower = new ParkTower();
        Scenes.leaveOnlyLevel(tower, 3);
        int[] tickets = Scenes.storeMany(tower, 22);
        Scenes.arriveSmall(tower, 1);
        for (int i = 0; i < 22; i++) {
            Check.same("car " + i, tower.plan(tickets[i], -1), i % 2 == 0 ? -1 : 0);
        }
        tower.shut(1);
        tower.tick(60);
        Check.same("a free cell again", tower.plan(tickets[0], 0), 7294);
    }
}
