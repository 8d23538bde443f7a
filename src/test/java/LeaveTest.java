/** Promise 6: leave. */
public final class LeaveTest {
    public static void main(String[] args) {
        wrongTickets();
        carsNotInACell();
        bayWithFewerFetches();
        at24Orders();
        Check.end();
    }

    private static void wrongTickets() {
        ParkTower tower = new ParkTower();
        Check.illegalArgument("nothing was given", () -> tower.leave(19));
        Scenes.storeMany(tower, 6);
        int[] wrong = {0, -1, -19, 1, 9, 10, 18, 20, 25, 60, 61, 69, 86, 190, 99991, 100019, Integer.MAX_VALUE,
            Integer.MIN_VALUE};
        for (int ticket : wrong) {
            Check.illegalArgument("ticket " + ticket, () -> tower.leave(ticket));
        }
        Check.same("no order was made", tower.look(0), 0);
        tower.power(false);
        Check.same("a right one, without power too", tower.leave(78), 0);
    }

    private static void carsNotInACell() {
        ParkTower tower = new ParkTower();
        int ticket = Scenes.arriveSmall(tower, 0);
        Check.illegalState("in the bay", () -> tower.leave(ticket));
        tower.shut(0);
        tower.tick(4);
        Check.illegalState("being stored", () -> tower.leave(ticket));
        tower.tick(5);
        Check.illegalState("on the lift", () -> tower.leave(ticket));
        tower.tick(1);
        Check.same("in the cell", tower.leave(ticket), 0);
        Check.illegalState("asked for already", () -> tower.leave(ticket));
        tower.tick(6);
        Check.same("being fetched", tower.look(1), ticket);
        Check.illegalState("being fetched", () -> tower.leave(ticket));
        tower.tick(30);
        Check.illegalState("in the bay", () -> tower.leave(ticket));
        tower.gone(0);
        Check.illegalState("gone", () -> tower.leave(ticket));
    }

    private static void bayWithFewerFetches() {
        ParkTower tower = new ParkTower();
        int[] tickets = Scenes.storeMany(tower, 5);
        Scenes.arriveSmall(tower, 0);
        tower.shut(0);
        tower.tick(4);
        Check.same("orders to store are not counted", tower.leave(tickets[0]), 0);
        Check.same("then the other", tower.leave(tickets[1]), 1);
        Check.same("of the same, 0", tower.leave(tickets[2]), 0);
        Check.same("then the other again", tower.leave(tickets[3]), 1);
        ParkTower second = new ParkTower();
        Scenes.storeMany(second, 3);
        second.leave(tickets[0]);
        second.tick(6);
        Check.same("it is being done", second.look(1), tickets[0]);
        Check.same("and counted", second.leave(tickets[1]), 1);
        second.tick(40);
        Check.same("both are done", second.look(0), 0);
        Check.same("and not counted any more", second.leave(tickets[2]), 0);
    }

    private static void at24Orders() {
        ParkTower tower = new ParkTower();
        int[] tickets = Scenes.storeMany(tower, 26);
        for (int i = 0; i < 23; i++) {
            Check.same("order " + i, tower.leave(tickets[i]), i % 2);
        }
        Scenes.arriveSmall(tower, 0);
        Check.illegalState("a car without an order is counted", () -> tower.leave(tickets[23]));
        Check.illegalArgument("a wrong ticket first", () -> tower.leave(18));
        ParkTower other = new ParkTower();
        Scenes.storeMany(other, 26);
        for (int i = 0; i < 24; i++) {
            other.leave(tickets[i]);
        }
        Check.same("24 orders", other.look(0), 24);
        Check.illegalState("the 25th", () -> other.leave(tickets[24]));
        other.tick(60);
        Check.same("one is done", other.look(0) < 24 ? 1 : 0, 1);
        Check.same("there is room again", other.leave(tickets[24]) >= 0 ? 1 : 0, 1);
    }
}
