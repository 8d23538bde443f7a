/**
 * One object used until all serials are given. The document leaves open what it answers by then, but no
 * call may throw anything that it does not name, and the serials end at 9999.
 */
public final class EnduranceTest {
    public static void main(String[] args) {
        ParkTower tower = new ParkTower();
        int ticket = Scenes.arriveSmall(tower, 0);
        int cars = 0;
        while (ticket > 0 && cars < 10000) {
            cars++;
            tower.shut(0);
            tower.tick(20);
            Scenes.fetch(tower, ticket);
            ticket = Scenes.arriveSmall(tower, 0);
        }
        Check.same("no serials any more", ticket, -6);
        Check.same("the serials that have a check digit", cars, serialsWithDigit());
        Check.same("the bay is empty", tower.bay(0, 2), 0);
        Check.illegalArgument("a ticket of five digits and a wrong digit", () -> tower.leave(99998));
        Check.end();
    }

    private static int serialsWithDigit() {
        int count = 0;
        for (int serial = 1; serial <= 9999; serial++) {
            int sum = 0;
            int weight = 2;
            for (int rest = serial; rest > 0; rest /= 10) {
                sum += weight * (rest % 10);
                weight++;
            }
            if (sum % 11 != 1) {
                count++;
            }
        }
        return count;
    }
}
