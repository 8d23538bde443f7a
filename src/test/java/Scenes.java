import java.util.Arrays;

/** Ways to bring a tower into a state that several tests need. */
final class Scenes {
    static final int[] NO_BAYS = {-1, 2, Integer.MIN_VALUE, Integer.MAX_VALUE};

    private Scenes() {
    }

    /** A car that fits all levels. */
    static int arriveSmall(ParkTower tower, int bay) {
        return tower.arrive(bay, 400, 150, 1500);
    }

    /** A car that fits level 3 alone. */
    static int arriveBig(ParkTower tower, int bay) {
        return tower.arrive(bay, 520, 210, 3000);
    }

    /** A car that fits level 3 alone comes and is stored. */
    static int storeBig(ParkTower tower) {
        int ticket = arriveBig(tower, 0);
        tower.shut(0);
        tower.tick(60);
        return ticket;
    }

    /** A small car comes through bay 0 and is stored. */
    static int store(ParkTower tower) {
        int ticket = arriveSmall(tower, 0);
        tower.shut(0);
        tower.tick(60);
        return ticket;
    }

    /** Small cars are stored; the tickets in the order in which they came. */
    static int[] storeMany(ParkTower tower, int count) {
        int[] tickets = new int[count];
        for (int i = 0; i < count; i++) {
            tickets[i] = store(tower);
        }
        return tickets;
    }

    /** A stored car is fetched and drives off. */
    static void fetch(ParkTower tower, int ticket) {
        int bay = tower.leave(ticket);
        tower.tick(150);
        Check.same("gone after the fetch", tower.gone(bay), ticket);
    }

    /** All levels but this one are jammed, so that every car that fits it comes to it. */
    static void leaveOnlyLevel(ParkTower tower, int level) {
        for (int l = 0; l < 4; l++) {
            tower.jam(l, l != level);
        }
    }

    /** The level on which a car that just came has the first cells, or -1. */
    static int levelKept(ParkTower tower) {
        for (int l = 0; l < 4; l++) {
            if (tower.cell(24 * l + 1) == -1) {
                return l;
            }
        }
        return -1;
    }

    /**
     * A small car in front of a free cell: the cell was kept for it while a car stood behind, which then
     * was fetched. The ticket of the car in front.
     */
    static int storeInFrontOfFreeCell(ParkTower tower) {
        int behind = store(tower);
        int front = arriveSmall(tower, 1);
        fetch(tower, behind);
        tower.shut(1);
        tower.tick(60);
        return front;
    }

    /** Level 0 with 22 cars, whose two free cells, 1 and 13, are behind cars. */
    static void levelWithTwoHiddenCells(ParkTower tower) {
        storeInFrontOfFreeCell(tower);
        storeInFrontOfFreeCell(tower);
        storeMany(tower, 20);
    }

    /**
     * Level 0 with 23 cars, whose only free cell is 1, behind the car in cell 0: 23 cars have come, the
     * first and the fifth of them have driven off, and two more have come. All tickets in that order.
     */
    static int[] levelWithHiddenCell(ParkTower tower) {
        int[] first = storeMany(tower, 23);
        fetch(tower, first[0]);
        fetch(tower, first[4]);
        int[] all = Arrays.copyOf(first, 25);
        all[23] = store(tower);
        all[24] = store(tower);
        return all;
    }
}
