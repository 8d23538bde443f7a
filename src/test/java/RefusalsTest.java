/** Every call that is refused, promise by promise: what it throws or answers, and that it changes nothing. */
public final class RefusalsTest {
    private static final int[] WRONG_BAYS = {-1, 2, Integer.MIN_VALUE, Integer.MAX_VALUE};
    private static final int[] NOT_ONE_AND_MORE = {0, -1, Integer.MIN_VALUE};

    public static void main(String[] args) {
        Sentences.test(RefusalsTest.class);
    }

    // Scenes

    private static ParkTower busy() {
        ParkTower tower = new ParkTower();
        Scenes.storeMany(tower, 2);
        tower.leave(19);
        Scenes.arriveSmall(tower, 1);
        tower.shut(1);
        tower.tick(3);
        return tower;
    }

    private static ParkTower withCar() {
        ParkTower tower = new ParkTower();
        Scenes.arriveSmall(tower, 0);
        return tower;
    }

    private static ParkTower withCarAfterShut(int ticks) {
        ParkTower tower = withCar();
        tower.shut(0);
        tower.tick(ticks);
        return tower;
    }

    /** A small car in cell 1. */
    private static ParkTower stored() {
        ParkTower tower = new ParkTower();
        Scenes.store(tower);
        return tower;
    }

    /** Its fetch begins in the fifth tick and ends in the eleventh; the door is open in the fifteenth. */
    private static ParkTower asked(int ticks) {
        ParkTower tower = stored();
        tower.leave(19);
        tower.tick(ticks);
        return tower;
    }

    private static ParkTower shuttingEmpty(int ticks) {
        ParkTower tower = new ParkTower();
        tower.shut(0);
        tower.tick(ticks);
        return tower;
    }

    private static ParkTower openingEmpty() {
        ParkTower tower = shuttingEmpty(3);
        tower.person(0, true);
        tower.person(0, false);
        return tower;
    }

    private static ParkTower withoutPower() {
        ParkTower tower = new ParkTower();
        tower.power(false);
        return tower;
    }

    private static ParkTower withFetches(int count) {
        ParkTower tower = new ParkTower();
        int[] tickets = Scenes.storeMany(tower, 26);
        for (int i = 0; i < count; i++) {
            tower.leave(tickets[i]);
        }
        return tower;
    }

    private static ParkTower jammed() {
        ParkTower tower = new ParkTower();
        Scenes.leaveOnlyLevel(tower, -1);
        return tower;
    }

    // Calls without an answer

    private static int shut(ParkTower tower, int bay) {
        tower.shut(bay);
        return 0;
    }

    private static int person(ParkTower tower, int bay, boolean in) {
        tower.person(bay, in);
        return 0;
    }

    private static int jam(ParkTower tower, int level, boolean on) {
        tower.jam(level, on);
        return 0;
    }

    private static int power(ParkTower tower, boolean on) {
        tower.power(on);
        return 0;
    }

    // Promise 2

    @Sentence("IllegalArgumentException: no such bay, or a number that is not 1 and more.")
    static void arriveAtNoBay() {
        for (int bay : WRONG_BAYS) {
            Twins.refusesArgument("bay " + bay, RefusalsTest::busy, t -> t.arrive(bay, 400, 150, 1500));
        }
    }

    @Sentence("or a number that is not 1 and more")
    static void arriveWithTooSmallANumber() {
        for (int number : NOT_ONE_AND_MORE) {
            Twins.refusesArgument("length " + number, ParkTower::new, t -> t.arrive(0, number, 150, 1500));
            Twins.refusesArgument("height " + number, ParkTower::new, t -> t.arrive(0, 400, number, 1500));
            Twins.refusesArgument("weight " + number, ParkTower::new, t -> t.arrive(0, 400, 150, number));
            Twins.refusesArgument("at a bay with a car", RefusalsTest::withCar, t -> t.arrive(0, number, 150, 1500));
            Twins.refusesArgument("without power", RefusalsTest::withoutPower, t -> t.arrive(0, 400, 999, number));
        }
        Check.same("1, 1, 1 is enough", new ParkTower().arrive(0, 1, 1, 1), 19);
    }

    @Sentence("-1 the bay has a car")
    static void arriveAtABayWithACar() {
        Twins.answers("a car that came", -1, RefusalsTest::withCar, t -> Scenes.arriveSmall(t, 0));
        Twins.answers("while it shuts", -1, () -> withCarAfterShut(1), t -> Scenes.arriveSmall(t, 0));
        Twins.answers("when it is shut", -1, () -> withCarAfterShut(4), t -> Scenes.arriveSmall(t, 0));
        Twins.answers("a fetched car, opening", -1, () -> asked(11), t -> Scenes.arriveSmall(t, 0));
        Twins.answers("a fetched car, open", -1, () -> asked(15), t -> Scenes.arriveSmall(t, 0));
    }

    @Sentence("-2 its door is not open")
    static void arriveAtADoorThatIsNotOpen() {
        Twins.answers("shutting", -2, () -> shuttingEmpty(3), t -> Scenes.arriveSmall(t, 0));
        Twins.answers("shut", -2, () -> shuttingEmpty(4), t -> Scenes.arriveSmall(t, 0));
        Twins.answers("opening", -2, RefusalsTest::openingEmpty, t -> Scenes.arriveSmall(t, 0));
        Twins.answers("opening behind a store", -2, () -> withCarAfterShut(5), t -> Scenes.arriveSmall(t, 0));
    }

    @Sentence("-3 too big for all levels")
    static void arriveTooBig() {
        Twins.answers("too long", -3, ParkTower::new, t -> t.arrive(1, 521, 150, 1500));
        Twins.answers("too high", -3, ParkTower::new, t -> t.arrive(1, 400, 211, 1500));
        Twins.answers("too heavy", -3, ParkTower::new, t -> t.arrive(1, 400, 150, 3001));
        Check.same("the biggest", new ParkTower().arrive(1, 520, 210, 3000), 19);
    }

    @Sentence("-4 no cell is found")
    static void arriveWithoutACell() {
        Twins.answers("all levels are jammed", -4, RefusalsTest::jammed, t -> Scenes.arriveSmall(t, 0));
        Twins.answers("the one level that it fits has too few", -4, () -> {
            ParkTower tower = new ParkTower();
            for (int i = 0; i < 23; i++) {
                Scenes.storeBig(tower);
            }
            return tower;
        }, t -> Scenes.arriveBig(t, 0));
        Twins.answers("a fetch is done on it", -4, () -> {
            ParkTower tower = new ParkTower();
            Scenes.storeBig(tower);
            tower.leave(19);
            tower.tick(5);
            return tower;
        }, t -> Scenes.arriveBig(t, 1));
    }

    @Sentence("-4 no cell is found")
    static void arriveAtAFullTower() {
        ParkTower tower = new ParkTower();
        Scenes.storeMany(tower, 92);
        Check.same("23 cars on each level", tower.look(5), 92);
        Check.same("one more", Scenes.arriveSmall(tower, 0), -4);
        Check.same("at the other bay", Scenes.arriveBig(tower, 1), -4);
    }

    @Sentence("-5 no power")
    static void arriveWithoutPower() {
        Twins.answers("no power", -5, RefusalsTest::withoutPower, t -> Scenes.arriveSmall(t, 0));
        ParkTower tower = withoutPower();
        tower.power(true);
        Check.same("power again, in the run too", Scenes.arriveSmall(tower, 0), 19);
    }

    @Sentence("-6 there are 24 orders (as said)")
    static void arriveAtTwentyFourOrders() {
        Twins.answers("24 to fetch", -6, () -> withFetches(24), t -> Scenes.arriveSmall(t, 0));
        Twins.answers("23 and a car", -6, () -> {
            ParkTower tower = withFetches(23);
            Scenes.arriveSmall(tower, 0);
            return tower;
        }, t -> Scenes.arriveSmall(t, 1));
        Check.same("at 23 one comes", Scenes.arriveSmall(withFetches(23), 1) > 0 ? 1 : 0, 1);
    }

    @Sentence("the first that holds")
    static void arriveAnswersTheFirstThatHolds() {
        for (int first = 1; first <= 6; first++) {
            Check.same("the first of those from -" + first + " on", arriveWhereAllHoldFrom(first), -first);
        }
        Check.same("none holds", arriveWhereAllHoldFrom(7) > 0 ? 1 : 0, 1);
    }

    /** A car comes to bay 1 where the reasons -first .. -6 hold, and none before them. */
    private static int arriveWhereAllHoldFrom(int first) {
        ParkTower tower = withFetches(first == 1 || first == 7 ? 23 : 24);
        if (first == 1) {
            Scenes.arriveSmall(tower, 1);
        }
        if (first <= 2) {
            tower.shut(1);
        }
        if (first <= 4) {
            Scenes.leaveOnlyLevel(tower, -1);
        }
        if (first <= 5) {
            tower.power(false);
        }
        return tower.arrive(1, first <= 3 ? 521 : 400, 150, 1500);
    }

    // Promise 3

    @Sentence("Shuts a door. IllegalArgumentException: no such bay")
    static void shutNoBay() {
        for (int bay : WRONG_BAYS) {
            Twins.refusesArgument("bay " + bay, RefusalsTest::busy, t -> shut(t, bay));
            Twins.refusesArgument("without power", RefusalsTest::withoutPower, t -> shut(t, bay));
        }
    }

    @Sentence("IllegalStateException: it is not open")
    static void shutADoorThatIsNotOpen() {
        Twins.refusesState("shutting", () -> shuttingEmpty(3), t -> shut(t, 0));
        Twins.refusesState("shut", () -> shuttingEmpty(4), t -> shut(t, 0));
        Twins.refusesState("opening", RefusalsTest::openingEmpty, t -> shut(t, 0));
        Twins.refusesState("shutting by itself", () -> asked(1), t -> shut(t, 0));
        Twins.refusesState("opening behind a store", () -> withCarAfterShut(5), t -> shut(t, 0));
    }

    @Sentence("a person or a fetched car is in the bay")
    static void shutOnAPerson() {
        Twins.refusesState("a person", () -> {
            ParkTower tower = withCar();
            tower.person(0, true);
            return tower;
        }, t -> shut(t, 0));
        ParkTower tower = withCar();
        tower.person(0, true);
        tower.shut(1);
        Check.same("the other bay is shut", tower.bay(1, 0), 3);
    }

    @Sentence("a person or a fetched car is in the bay")
    static void shutOnAFetchedCar() {
        Twins.refusesState("a fetched car", () -> asked(15), t -> shut(t, 0));
        ParkTower tower = asked(15);
        tower.gone(0);
        tower.shut(0);
        Check.same("when it is gone", tower.bay(0, 0), 3);
    }

    @Sentence("or there is no power")
    static void shutWithoutPower() {
        Twins.refusesState("no power", RefusalsTest::withoutPower, t -> shut(t, 0));
        ParkTower tower = withoutPower();
        tower.power(true);
        tower.shut(0);
        Check.same("in the run it shuts", tower.bay(0, 0), 3);
    }

    // Promise 4

    @Sentence("A person is in a bay, or not. IllegalArgumentException: no such bay")
    static void personInNoBay() {
        for (int bay : WRONG_BAYS) {
            Twins.refusesArgument("in " + bay, RefusalsTest::busy, t -> person(t, bay, true));
            Twins.refusesArgument("out " + bay, RefusalsTest::busy, t -> person(t, bay, false));
        }
    }

    @Sentence("IllegalStateException: one is to come in, and the door is shut.")
    static void personThroughAShutDoor() {
        Twins.refusesState("an empty bay", () -> shuttingEmpty(4), t -> person(t, 0, true));
        Twins.refusesState("a car to store", () -> withCarAfterShut(4), t -> person(t, 0, true));
        Twins.refusesState("a fetch", () -> asked(10), t -> person(t, 0, true));
        Twins.refusesState("without power", () -> {
            ParkTower tower = shuttingEmpty(4);
            tower.power(false);
            return tower;
        }, t -> person(t, 0, true));
        Twins.answers("none to come in", 0, () -> shuttingEmpty(4), t -> person(t, 0, false));
    }

    // Promise 5

    @Sentence("The fetched car drives off: its ticket. IllegalArgumentException: no such bay")
    static void goneFromNoBay() {
        for (int bay : WRONG_BAYS) {
            Twins.refusesArgument("bay " + bay, () -> asked(15), t -> t.gone(bay));
        }
    }

    @Sentence("IllegalStateException: there is no fetched car in it")
    static void goneWithoutAFetchedCar() {
        Twins.refusesState("an empty bay", ParkTower::new, t -> t.gone(0));
        Twins.refusesState("a car that came", RefusalsTest::withCar, t -> t.gone(0));
        Twins.refusesState("the other bay", () -> asked(15), t -> t.gone(1));
        Twins.refusesState("a second time", () -> {
            ParkTower tower = asked(15);
            tower.gone(0);
            return tower;
        }, t -> t.gone(0));
        Twins.refusesState("a car that came behind it", () -> {
            ParkTower tower = asked(15);
            tower.gone(0);
            Scenes.arriveSmall(tower, 0);
            return tower;
        }, t -> t.gone(0));
    }

    @Sentence("or the door is not open")
    static void goneThroughADoorThatIsNotOpen() {
        Twins.refusesState("the first tick of opening", () -> asked(11), t -> t.gone(0));
        Twins.refusesState("the last tick of opening", () -> asked(14), t -> t.gone(0));
        Twins.refusesState("the car is not there yet", () -> asked(10), t -> t.gone(0));
        Check.same("open", asked(15).gone(0), 19);
    }

    // Promise 6

    @Sentence("IllegalArgumentException: the ticket's check digit is wrong, or it was never given")
    static void leaveWithAWrongDigit() {
        for (int ticket = 10; ticket < 19; ticket++) {
            int wrong = ticket;
            Twins.refusesArgument("ticket " + ticket, RefusalsTest::stored, t -> t.leave(wrong));
        }
        Check.same("the right one", stored().leave(19), 0);
    }

    @Sentence("or it was never given")
    static void leaveWithATicketNeverGiven() {
        Twins.refusesArgument("none was given", ParkTower::new, t -> t.leave(19));
        int[] tickets = {27, 0, 9, 1, -1, -9, -19, 99996, 100019, 190, Integer.MAX_VALUE, Integer.MIN_VALUE};
        for (int ticket : tickets) {
            Twins.refusesArgument("ticket " + ticket, RefusalsTest::stored, t -> t.leave(ticket));
        }
    }

    @Sentence("IllegalStateException: the car is not in a cell, is asked for already, or there are 24 orders (as said).")
    static void leaveWithACarThatIsInNoCell() {
        Twins.refusesState("in the bay", RefusalsTest::withCar, t -> t.leave(19));
        Twins.refusesState("to be stored", () -> withCarAfterShut(4), t -> t.leave(19));
        Twins.refusesState("on the lift", () -> withCarAfterShut(9), t -> t.leave(19));
        Twins.refusesState("on the lift again", () -> asked(9), t -> t.leave(19));
        Twins.refusesState("fetched", () -> asked(11), t -> t.leave(19));
        Twins.refusesState("gone", () -> {
            ParkTower tower = asked(15);
            tower.gone(0);
            return tower;
        }, t -> t.leave(19));
        Check.same("as it is in its cell", withCarAfterShut(10).leave(19), 0);
    }

    @Sentence("is asked for already")
    static void leaveTwice() {
        Twins.refusesState("it waits", () -> asked(1), t -> t.leave(19));
        Twins.refusesState("it is being fetched", () -> asked(8), t -> t.leave(19));
    }

    @Sentence("or there are 24 orders (as said)")
    static void leaveAtTwentyFourOrders() {
        Twins.refusesState("24 to fetch", () -> withFetches(24), t -> t.leave(t.cell(25)));
        Twins.refusesState("22 and two cars", () -> {
            ParkTower tower = withFetches(22);
            Scenes.arriveSmall(tower, 0);
            Scenes.arriveSmall(tower, 1);
            return tower;
        }, t -> t.leave(t.cell(25)));
        ParkTower tower = withFetches(23);
        Check.same("the 24th", tower.leave(tower.cell(25)), 1);
    }

    // Promise 7

    @Sentence("A level jams, or not. IllegalArgumentException: there is none such.")
    static void jamNoLevel() {
        for (int level : new int[] {-1, 4, Integer.MIN_VALUE, Integer.MAX_VALUE}) {
            Twins.refusesArgument("on " + level, RefusalsTest::busy, t -> jam(t, level, true));
            Twins.refusesArgument("off " + level, RefusalsTest::jammed, t -> jam(t, level, false));
        }
        for (int level = 0; level < 4; level++) {
            int right = level;
            Twins.answers("on again", 0, RefusalsTest::jammed, t -> jam(t, right, true));
            Twins.answers("off again", 0, RefusalsTest::busy, t -> jam(t, right, false));
        }
    }

    // Promise 8

    @Sentence("IllegalStateException: it is so.")
    static void powerThatIsSo() {
        Twins.refusesState("on, makes no run", RefusalsTest::busy, t -> power(t, true));
        Twins.refusesState("on in the run, makes none anew", () -> {
            ParkTower tower = busy();
            tower.power(false);
            tower.power(true);
            tower.tick(3);
            return tower;
        }, t -> power(t, true));
        Twins.refusesState("off", () -> {
            ParkTower tower = busy();
            tower.power(false);
            return tower;
        }, t -> power(t, false));
    }

    // Promise 9

    @Sentence("n ticks (1 .. 500): the time. IllegalArgumentException: n is not so.")
    static void tickTooFewOrTooMany() {
        for (int n : new int[] {0, -1, 501, Integer.MIN_VALUE, Integer.MAX_VALUE}) {
            Twins.refusesArgument("n " + n, RefusalsTest::busy, t -> t.tick(n));
        }
        Check.same("the fewest", new ParkTower().tick(1), 1);
        Check.same("the most", new ParkTower().tick(500), 500);
    }

    // Promise 10

    @Sentence("IllegalArgumentException: no such cell.")
    static void noSuchCell() {
        for (int cell : new int[] {-1, 96, Integer.MIN_VALUE, Integer.MAX_VALUE}) {
            Twins.refusesArgument("cell " + cell, RefusalsTest::busy, t -> t.cell(cell));
        }
    }

    // Promise 11

    @Sentence("IllegalArgumentException: the ticket was never given")
    static void planOfATicketNeverGiven() {
        Twins.refusesArgument("none was given", ParkTower::new, t -> t.plan(19, -1));
        int[] tickets = {18, 10, 27, 0, 9, -19, 100019, Integer.MAX_VALUE, Integer.MIN_VALUE};
        for (int ticket : tickets) {
            Twins.refusesArgument("ticket " + ticket, RefusalsTest::stored, t -> t.plan(ticket, -1));
            Twins.refusesArgument("before a wrong move", RefusalsTest::stored, t -> t.plan(ticket, 7));
        }
    }

    @Sentence("IllegalStateException: the car is not in a cell; IndexOutOfBoundsException: no such move.")
    static void planOfACarThatIsInNoCell() {
        Twins.refusesState("in the bay", RefusalsTest::withCar, t -> t.plan(19, -1));
        Twins.refusesState("before a wrong move", RefusalsTest::withCar, t -> t.plan(19, 7));
        Twins.refusesState("on the lift", () -> withCarAfterShut(9), t -> t.plan(19, -1));
        Twins.refusesState("on the lift again", () -> asked(9), t -> t.plan(19, -1));
        Twins.refusesState("fetched", () -> asked(11), t -> t.plan(19, -1));
        Check.same("still in its cell", asked(8).plan(19, -1), 0);
    }

    @Sentence("IndexOutOfBoundsException: no such move.")
    static void planWithoutSuchAMove() {
        for (int i : new int[] {-2, 0, 1, Integer.MIN_VALUE, Integer.MAX_VALUE}) {
            Twins.refusesMove("move " + i + " of none", RefusalsTest::stored, t -> t.plan(19, i));
        }
        for (int i : new int[] {-2, 1, 2, Integer.MIN_VALUE, Integer.MAX_VALUE}) {
            Twins.refusesMove("move " + i + " of one", RefusalsTest::busy, t -> t.plan(19, i));
        }
        Check.same("the one", busy().plan(19, 0), 2);
    }

    // Promises 12 and 13

    @Sentence("IllegalArgumentException: no such bay or what.")
    static void noSuchBayOrWhat() {
        for (int bay : WRONG_BAYS) {
            for (int what = 0; what < 5; what++) {
                int right = what;
                Check.illegalArgument("bay " + bay + ", " + what, () -> new ParkTower().bay(bay, right));
            }
        }
        for (int what : new int[] {-1, 5, Integer.MIN_VALUE, Integer.MAX_VALUE}) {
            Twins.refusesArgument("what " + what, RefusalsTest::busy, t -> t.bay(0, what));
            Twins.refusesArgument("what " + what, RefusalsTest::busy, t -> t.bay(1, what));
        }
    }

    @Sentence("IllegalArgumentException: no such what.")
    static void noSuchWhat() {
        for (int what : new int[] {-1, 7, Integer.MIN_VALUE, Integer.MAX_VALUE}) {
            Twins.refusesArgument("what " + what, RefusalsTest::busy, t -> t.look(what));
        }
    }
}
