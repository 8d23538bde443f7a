/** TICKETS: serials, check digits, and what is no ticket. EnduranceTest goes through all serials. */
public final class TicketEdgesTest {
    public static void main(String[] args) {
        Sentences.test(TicketEdgesTest.class);
    }

    @Sentence("the serial s (1, 2, .. 9999, in order)")
    static void serialsInOrderFromOne() {
        ParkTower tower = new ParkTower();
        Check.same("none yet", tower.look(6), 0);
        Check.same("a car too big takes none", tower.arrive(0, 521, 1, 1), -3);
        Check.same("still none", tower.look(6), 0);
        Scenes.arriveSmall(tower, 1);
        Check.same("the first", tower.look(6), 1);
        Check.same("a bay with a car", Scenes.arriveSmall(tower, 1), -1);
        Scenes.arriveSmall(tower, 0);
        Check.same("the second", tower.look(6), 2);
    }

    @Sentence("gives 10 s + the check digit e (0 .. 9)")
    static void checkDigitsFromNoughtToNine() {
        ParkTower tower = new ParkTower();
        int[] tickets = Scenes.storeMany(tower, 13);
        Check.same("serial 1 with 9, the greatest", tickets[0], 19);
        Check.same("serial 5 with 1", tickets[4], 51);
        Check.same("serial 14 with 0, the least", tickets[12], 140);
    }

    @Sentence("with 5 d1 + 4 d2 + 3 d3 + 2 d4 + e a multiple of 11")
    static void digitsOfOneTwoAndThreePlaces() {
        ParkTower tower = new ParkTower();
        int[] tickets = Scenes.storeMany(tower, 92);
        Check.same("9 and 4", tickets[7], 94);
        Check.same("10 and 8", tickets[8], 108);
        Check.same("98 and 1", tickets[89], 981);
        Check.same("100 and 7, as 99 would need 10", tickets[90], 1007);
        Check.same("101 and 5", tickets[91], 1015);
    }

    @Sentence("serials without one are left out")
    static void serialsAreLeftOut() {
        ParkTower tower = new ParkTower();
        int[] tickets = Scenes.storeMany(tower, 6);
        Check.same("5, then", tickets[4], 51);
        Check.same("7, as 6 would need 10", tickets[5], 78);
        Check.same("the latest serial", tower.look(6), 7);
        for (int e = 0; e < 10; e++) {
            int ticket = 60 + e;
            Check.illegalArgument("leave " + ticket, () -> tower.leave(ticket));
            Check.illegalArgument("plan " + ticket, () -> tower.plan(ticket, -1));
        }
    }
}
