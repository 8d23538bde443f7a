/**
 * One object used until all serials are given. The document leaves open what it answers by then, but no
 * call may throw anything that it does not name, and the serials end at 9999.
 */
public final class EnduranceTest {
    public static void main(String[] args) {
        Sentences.test(EnduranceTest.class);
    }

    @Sentence("or no serials any more")
    static void serialsToTheLast() {
        ParkTower tower = new ParkTower();
        int serial = 0;
        for (int due = nextDue(serial); due > 0; due = nextDue(serial)) {
            serial = due / 10;
            if (Scenes.arriveSmall(tower, 0) != due) {
                Check.fail("serial " + serial + " has not the ticket " + due);
                break;
            }
            tower.shut(0);
            tower.tick(20);
            Scenes.fetch(tower, due);
        }
        Check.same("the last serial", tower.look(6), 9999);
        Check.same("its car is gone", tower.look(5) + tower.bay(0, 2), 0);
        Check.same("no serials any more", Scenes.arriveSmall(tower, 0), -6);
        Check.same("nor later", Scenes.arriveSmall(tower, 1), -6);
        Check.same("no cell is kept", tower.cell(1), 0);
        Check.illegalState("the last ticket was given", () -> tower.leave(99996));
        Check.illegalArgument("with a wrong digit it was not", () -> tower.leave(99995));
        Check.illegalArgument("there is none behind it", () -> tower.leave(100006));
    }

    /** The ticket of the first serial behind this one that has a check digit, or 0. */
    private static int nextDue(int last) {
        for (int ticket = 10 * last + 10; ticket < 100000; ticket++) {
            int sum = ticket % 10;
            int weight = 2;
            for (int rest = ticket / 10; rest > 0; rest /= 10) {
                sum += weight * (rest % 10);
                weight++;
            }
            if (sum % 11 == 0) {
                return ticket;
            }
        }
        return 0;
    }
}
