/**
 * An automatic parking tower: cars come to two bays, and a lift with a shuttle stores and fetches
 * them by orders. What each call promises stands in the document, under the call's name.
 */
public final class ParkTower {
    private static final int NONE = -1;
    private static final int FREE = 0;
    private static final int KEPT = -1;
    private static final int NO_CAR = 0;

    private static final int BAYS = 2;
    private static final int LEVELS = 4;
    private static final int COLUMNS = 6;
    private static final int ROWS = 2;
    private static final int ROW_CELLS = 12;
    private static final int LEVEL_CELLS = 24;
    private static final int CELLS = 96;

    private static final int MOST_LENGTH = 520;
    private static final int MOST_ORDERS = 24;
    private static final int MOST_TICKS = 500;
    private static final int LAST_SERIAL = 9999;
    private static final int NO_DIGIT = 10;

    private static final int DOOR_SHUT = 0;
    private static final int DOOR_OPENING = 1;
    private static final int DOOR_OPEN = 2;
    private static final int DOOR_SHUTTING = 3;

    private static final int DOOR_TICKS = 4;
    private static final int LEVEL_TICKS = 3;
    private static final int BAY_TICKS = 2;
    private static final int RESTART_TICKS = 5;

    private static final int BAY_HAS_CAR = -1;
    private static final int DOOR_NOT_OPEN = -2;
    private static final int TOO_BIG = -3;
    private static final int NO_CELL = -4;
    private static final int NO_POWER = -5;
    private static final int NO_ORDER_LEFT = -6;

    private final Rack rack;
    private final Bay[] bays;
    private final Orders orders;
    private final Job job;
    private final Plan askedPlan;
    private int liftLevel;
    private boolean powered;
    private int restartTicks;
    private int time;
    private int serial;

    public ParkTower() {
        rack = new Rack();
        bays = new Bay[BAYS];
        for (int i = 0; i < BAYS; i++) {
            bays[i] = new Bay();
        }
        orders = new Orders();
        job = new Job();
        askedPlan = new Plan();
        powered = true;
    }

    public int arrive(int bay, int length, int height, int weight) throws IllegalArgumentException {
        if (!isBay(bay) || length < 1 || height < 1 || weight < 1) {
            throw new IllegalArgumentException();
        }
        Bay place = bays[bay];
        if (place.ticket != NO_CAR) {
            return BAY_HAS_CAR;
        }
        if (place.door != DOOR_OPEN) {
            return DOOR_NOT_OPEN;
        }
        if (length > MOST_LENGTH || !fitsAnyLevel(height, weight)) {
            return TOO_BIG;
        }
        int cell = cellFor(height, weight);
        if (cell == NONE) {
            return NO_CELL;
        }
        if (!powered) {
            return NO_POWER;
        }
        int next = serialAfter(serial);
        if (allOrders() >= MOST_ORDERS || next == NONE) {
            return NO_ORDER_LEFT;
        }
        serial = next;
        rack.keep(cell);
        place.receive(ticketOf(next), cell);
        return place.ticket;
    }

    public void shut(int bay) throws IllegalArgumentException, IllegalStateException {
        if (!isBay(bay)) {
            throw new IllegalArgumentException();
        }
        Bay place = bays[bay];
        if (place.door != DOOR_OPEN || place.personIn || place.fetched || !powered) {
            throw new IllegalStateException();
        }
        place.beginToShut();
    }

    public void person(int bay, boolean in) throws IllegalArgumentException, IllegalStateException {
        if (!isBay(bay)) {
            throw new IllegalArgumentException();
        }
        Bay place = bays[bay];
        if (in && place.door == DOOR_SHUT) {
            throw new IllegalStateException();
        }
        place.personIn = in;
        // The person, not the door itself, begins this, so it is not held back without power.
        if (in && place.door == DOOR_SHUTTING) {
            place.beginToOpen();
        }
    }

    public int gone(int bay) throws IllegalArgumentException, IllegalStateException {
        if (!isBay(bay)) {
            throw new IllegalArgumentException();
        }
        Bay place = bays[bay];
        if (!place.fetched || place.door != DOOR_OPEN) {
            throw new IllegalStateException();
        }
        int ticket = place.ticket;
        place.clear();
        return ticket;
    }

    public int leave(int ticket) throws IllegalArgumentException, IllegalStateException {
        if (!wasGiven(ticket)) {
            throw new IllegalArgumentException();
        }
        if (rack.find(ticket) == NONE || orders.hasOneOf(ticket) || allOrders() >= MOST_ORDERS) {
            throw new IllegalStateException();
        }
        int bay = orders.fetchesFor(1) < orders.fetchesFor(0) ? 1 : 0;
        orders.add(ticket, bay, NONE);
        return bay;
    }

    public void jam(int level, boolean on) throws IllegalArgumentException {
        if (level < 0 || level >= LEVELS) {
            throw new IllegalArgumentException();
        }
        rack.jammed[level] = on;
    }

    public void power(boolean on) throws IllegalStateException {
        if (powered == on) {
            throw new IllegalStateException();
        }
        powered = on;
        if (on) {
            restartTicks = RESTART_TICKS;
        }
    }

    public int tick(int n) throws IllegalArgumentException {
        if (n < 1 || n > MOST_TICKS) {
            throw new IllegalArgumentException();
        }
        for (int i = 0; i < n; i++) {
            passOneTick();
        }
        return time;
    }

    public int cell(int cell) throws IllegalArgumentException {
        if (cell < 0 || cell >= CELLS) {
            throw new IllegalArgumentException();
        }
        return rack.held[cell];
    }

    public int plan(int ticket, int i)
            throws IllegalArgumentException, IllegalStateException, IndexOutOfBoundsException {
        if (!wasGiven(ticket)) {
            throw new IllegalArgumentException();
        }
        int cell = rack.find(ticket);
        if (cell == NONE) {
            throw new IllegalStateException();
        }
        askedPlan.make(rack, cell);
        if (i == -1) {
            return askedPlan.count;
        }
        if (i < 0 || i >= askedPlan.count) {
            throw new IndexOutOfBoundsException();
        }
        return 100 * askedPlan.from[i] + askedPlan.to[i];
    }

    public int bay(int bay, int what) throws IllegalArgumentException {
        if (!isBay(bay)) {
            throw new IllegalArgumentException();
        }
        Bay place = bays[bay];
        switch (what) {
            case 0:
                return place.door;
            case 1:
                return place.personIn ? 1 : 0;
            case 2:
                return place.ticket;
            case 3:
                return place.fetched ? 1 : 0;
            case 4:
                return orders.countFor(bay);
            default:
                throw new IllegalArgumentException();
        }
    }

    public int look(int what) throws IllegalArgumentException {
        switch (what) {
            case 0:
                return orders.count;
            case 1:
                return job.isIdle() ? NO_CAR : orders.tickets[job.order];
            case 2:
                return job.stepsEnded;
            case 3:
                return job.ticksLeft;
            case 4:
                return liftLevel;
            case 5:
                return rack.countCars();
            case 6:
                return serial;
            default:
                throw new IllegalArgumentException();
        }
    }

    private static boolean isBay(int bay) {
        return bay >= 0 && bay < BAYS;
    }

    // Cars and levels

    private static boolean fitsLevel(int level, int height, int weight) {
        int mostHeight = level < 2 ? 160 : 210;
        int mostWeight = level % 2 == 0 ? 2000 : 3000;
        return height <= mostHeight && weight <= mostWeight;
    }

    private static boolean fitsAnyLevel(int height, int weight) {
        for (int level = 0; level < LEVELS; level++) {
            if (fitsLevel(level, height, weight)) {
                return true;
            }
        }
        return false;
    }

    private int cellFor(int height, int weight) {
        for (int level = 0; level < LEVELS; level++) {
            if (fitsLevel(level, height, weight) && level != levelOfFetch() && rack.hasRoom(level)) {
                int cell = rack.firstCellToStore(level);
                if (cell != NONE) {
                    return cell;
                }
            }
        }
        return NONE;
    }

    private int levelOfFetch() {
        if (job.isIdle() || !orders.isFetch(job.order)) {
            return NONE;
        }
        return levelOf(job.cell);
    }

    // Cells

    private static int levelOf(int cell) {
        return cell / LEVEL_CELLS;
    }

    private static boolean isFront(int cell) {
        return cell % 2 == 0;
    }

    private static int shuttleTicks(int cell) {
        int column = cell % ROW_CELLS / 2;
        int depth = cell % 2;
        return 2 * (column + 1) + 2 + depth;
    }

    // Tickets

    /** The digit that makes the weighed sum a multiple of 11, or NO_DIGIT when none does. */
    private static int checkDigit(int serial) {
        int sum = 5 * (serial / 1000) + 4 * (serial / 100 % 10) + 3 * (serial / 10 % 10) + 2 * (serial % 10);
        return (11 - sum % 11) % 11;
    }

    private static int ticketOf(int serial) {
        return 10 * serial + checkDigit(serial);
    }

    private static int serialAfter(int last) {
        for (int next = last + 1; next <= LAST_SERIAL; next++) {
            if (checkDigit(next) != NO_DIGIT) {
                return next;
            }
        }
        return NONE;
    }

    private boolean wasGiven(int ticket) {
        int asked = ticket / 10;
        return asked >= 1 && asked <= serial && checkDigit(asked) == ticket % 10;
    }

    // Ticks

    private int allOrders() {
        int count = orders.count;
        for (int i = 0; i < BAYS; i++) {
            if (bays[i].holdsCarWithoutOrder()) {
                count++;
            }
        }
        return count;
    }

    private void passOneTick() {
        time++;
        if (powered) {
            for (int i = 0; i < BAYS; i++) {
                workDoor(i);
            }
        }
        if (restartTicks > 0) {
            restartTicks--;
            return;
        }
        if (job.isIdle()) {
            beginFirstThatCan();
        }
        if (!job.isIdle() && stepMayGoOn()) {
            goOnByOne();
        }
    }

    private void workDoor(int bay) {
        Bay place = bays[bay];
        boolean hadNoOrder = place.holdsCarWithoutOrder();
        place.moveDoor();
        if (hadNoOrder && place.door == DOOR_SHUT) {
            orders.add(place.ticket, bay, place.keptCell);
        }
        if (place.isOpenAndClear() && orders.firstWaitingIsFetch(bay, job.order)) {
            place.beginToShut();
        }
    }

    private void beginFirstThatCan() {
        for (int order = 0; order < orders.count; order++) {
            int cell = orders.isFetch(order) ? cellToFetchFrom(order) : orders.keptCells[order];
            if (cell != NONE) {
                beginJob(order, cell);
                return;
            }
        }
    }

    /**
     * The cell of the order's car, or NONE while the fetch can't begin. The bay is looked at first, being
     * the cheapest; the plan stays in the job, which goes by it.
     */
    private int cellToFetchFrom(int order) {
        Bay place = bays[orders.bays[order]];
        if (place.ticket != NO_CAR || !place.isSafe()) {
            return NONE;
        }
        int cell = rack.find(orders.tickets[order]);
        if (cell == NONE || rack.jammed[levelOf(cell)] || !job.plan.make(rack, cell)) {
            return NONE;
        }
        return cell;
    }

    private void beginJob(int order, int cell) {
        job.order = order;
        job.cell = cell;
        job.stepsEnded = 0;
        beginStep();
    }

    // Steps

    private boolean stepMayGoOn() {
        Step step = stepNow();
        if (!powered || step.atLevel && rack.jammed[levelOf(job.cell)]) {
            return false;
        }
        return !step.atBay || bays[orders.bays[job.order]].isSafe();
    }

    private void goOnByOne() {
        job.ticksLeft--;
        if (job.ticksLeft > 0) {
            return;
        }
        endStep(stepNow());
        job.stepsEnded++;
        if (job.stepsEnded < stepCount()) {
            beginStep();
        } else {
            orders.remove(job.order);
            job.end();
        }
    }

    private void beginStep() {
        int count = stepCount();
        job.ticksLeft = ticksOf(stepNow());
        while (job.ticksLeft == 0 && job.stepsEnded < count - 1) {
            job.stepsEnded++;
            job.ticksLeft = ticksOf(stepNow());
        }
    }

    private int stepCount() {
        return orders.isFetch(job.order) ? job.plan.count + 4 : 4;
    }

    private Step stepNow() {
        return orders.isFetch(job.order) ? fetchStep() : storeStep();
    }

    private Step storeStep() {
        switch (job.stepsEnded) {
            case 0:
                return Step.LIFT_TO_GROUND;
            case 1:
                return Step.FROM_BAY;
            case 2:
                return Step.LIFT_TO_LEVEL;
            default:
                return Step.INTO_CELL;
        }
    }

    private Step fetchStep() {
        if (job.stepsEnded == 0) {
            return Step.LIFT_TO_LEVEL;
        }
        switch (Math.max(0, job.stepsEnded - job.plan.count)) {
            case 0:
                return Step.MOVE;
            case 1:
                return Step.FROM_CELL;
            case 2:
                return Step.LIFT_TO_GROUND;
            default:
                return Step.INTO_BAY;
        }
    }

    private int ticksOf(Step step) {
        switch (step) {
            case LIFT_TO_GROUND:
                return LEVEL_TICKS * liftLevel;
            case LIFT_TO_LEVEL:
                return LEVEL_TICKS * Math.abs(levelOf(job.cell) - liftLevel);
            case MOVE:
                return shuttleTicks(job.moveFrom()) + shuttleTicks(job.moveTo());
            case FROM_CELL:
            case INTO_CELL:
                return shuttleTicks(job.cell);
            default:
                return BAY_TICKS;
        }
    }

    private void endStep(Step step) {
        Bay place = bays[orders.bays[job.order]];
        int ticket = orders.tickets[job.order];
        switch (step) {
            case LIFT_TO_GROUND:
                liftLevel = 0;
                break;
            case LIFT_TO_LEVEL:
                liftLevel = levelOf(job.cell);
                break;
            case MOVE:
                rack.move(job.moveFrom(), job.moveTo());
                break;
            case FROM_CELL:
                rack.held[job.cell] = FREE;
                break;
            case INTO_CELL:
                rack.fillKept(job.cell, ticket);
                break;
            case FROM_BAY:
                place.clear();
                place.beginToOpen();
                break;
            default:
                place.putFetched(ticket);
                place.beginToOpen();
        }
    }

    /** What the lift or its shuttle does in one step of an order, and where it can be stopped. */
    private enum Step {
        LIFT_TO_GROUND(false, false),
        LIFT_TO_LEVEL(false, false),
        FROM_BAY(true, false),
        INTO_BAY(true, false),
        FROM_CELL(false, true),
        INTO_CELL(false, true),
        MOVE(false, true);

        private final boolean atBay;
        private final boolean atLevel;

        Step(boolean atBay, boolean atLevel) {
            this.atBay = atBay;
            this.atLevel = atLevel;
        }
    }

    /** The cells, each with its car's ticket, FREE or KEPT, and the levels that are jammed. */
    private static final class Rack {
        private final int[] held;
        private final boolean[] jammed;

        Rack() {
            held = new int[CELLS];
            jammed = new boolean[LEVELS];
        }

        boolean hasCar(int cell) {
            return held[cell] > 0;
        }

        boolean isReached(int cell) {
            return isFront(cell) || !hasCar(cell - 1);
        }

        int find(int ticket) {
            for (int cell = 0; cell < CELLS; cell++) {
                if (held[cell] == ticket) {
                    return cell;
                }
            }
            return NONE;
        }

        int countCars() {
            int count = 0;
            for (int cell = 0; cell < CELLS; cell++) {
                if (hasCar(cell)) {
                    count++;
                }
            }
            return count;
        }

        int countFree(int level) {
            int count = 0;
            int first = level * LEVEL_CELLS;
            for (int cell = first; cell < first + LEVEL_CELLS; cell++) {
                if (held[cell] == FREE) {
                    count++;
                }
            }
            return count;
        }

        boolean hasRoom(int level) {
            return !jammed[level] && countFree(level) >= 2;
        }

        int firstCellToStore(int level) {
            for (int column = 0; column < COLUMNS; column++) {
                for (int row = 0; row < ROWS; row++) {
                    int front = level * LEVEL_CELLS + row * ROW_CELLS + 2 * column;
                    int back = front + 1;
                    if (held[front] == FREE && held[back] == FREE) {
                        return back;
                    }
                    if (held[front] == FREE && hasCar(back)) {
                        return front;
                    }
                }
            }
            return NONE;
        }

        void keep(int cell) {
            held[cell] = KEPT;
            if (!isFront(cell)) {
                held[cell - 1] = KEPT;
            }
        }

        void fillKept(int cell, int ticket) {
            held[cell] = ticket;
            if (!isFront(cell)) {
                held[cell - 1] = FREE;
            }
        }

        void move(int from, int to) {
            held[to] = held[from];
            held[from] = FREE;
        }

        /** The least cell of the level that a car in front can be moved to. */
        int leastGoal(int level) {
            int first = level * LEVEL_CELLS;
            for (int cell = first; cell < first + LEVEL_CELLS; cell++) {
                boolean closesKept = isFront(cell) && held[cell + 1] == KEPT;
                if (held[cell] == FREE && isReached(cell) && !closesKept) {
                    return cell;
                }
            }
            return NONE;
        }

        /** The least cell of the level whose car can step back into a free cell behind it. */
        int leastStepBack(int level) {
            int first = level * LEVEL_CELLS;
            for (int cell = first; cell < first + LEVEL_CELLS; cell += 2) {
                if (hasCar(cell) && held[cell + 1] == FREE) {
                    return cell;
                }
            }
            return NONE;
        }
    }

    /**
     * The least row of moves behind which a car is reached. A car that is not reached has another in
     * front, which must go, and one move does where a free cell is reached. Where none is, each free
     * cell has a car in front; the only moves are those of such cars back into the cell behind them,
     * and after the first of them its front cell is the only goal. So two moves always do, if any.
     */
    private static final class Plan {
        private static final int MOST_MOVES = 2;

        private final int[] from;
        private final int[] to;
        private int count;

        Plan() {
            from = new int[MOST_MOVES];
            to = new int[MOST_MOVES];
        }

        /** Makes the plan of the car in this cell, and tells whether there is one. */
        boolean make(Rack rack, int cell) {
            count = 0;
            if (rack.isReached(cell)) {
                return true;
            }
            int level = levelOf(cell);
            int goal = rack.leastGoal(level);
            if (goal == NONE) {
                goal = rack.leastStepBack(level);
                if (goal == NONE) {
                    count = NONE;
                    return false;
                }
                addMove(goal, goal + 1);
            }
            addMove(cell - 1, goal);
            return true;
        }

        private void addMove(int source, int goal) {
            from[count] = source;
            to[count] = goal;
            count++;
        }
    }

    /** The order that is being done, with the cell of its car and how far it has come. */
    private static final class Job {
        private final Plan plan;
        private int order;
        private int cell;
        private int stepsEnded;
        private int ticksLeft;

        Job() {
            plan = new Plan();
            order = NONE;
        }

        boolean isIdle() {
            return order == NONE;
        }

        void end() {
            order = NONE;
            stepsEnded = 0;
            ticksLeft = 0;
        }

        /** The lift's step to the level comes before the plan's first move. */
        int moveFrom() {
            return plan.from[stepsEnded - 1];
        }

        int moveTo() {
            return plan.to[stepsEnded - 1];
        }
    }

    /** A bay with its door, the person in it and its car. */
    private static final class Bay {
        private int door;
        private int doorTicks;
        private boolean personIn;
        private int ticket;
        private boolean fetched;
        private int keptCell;

        Bay() {
            door = DOOR_OPEN;
            keptCell = NONE;
        }

        void beginToOpen() {
            door = DOOR_OPENING;
            doorTicks = DOOR_TICKS;
        }

        void beginToShut() {
            door = DOOR_SHUTTING;
            doorTicks = DOOR_TICKS;
        }

        void moveDoor() {
            if (doorTicks == 0) {
                return;
            }
            doorTicks--;
            if (doorTicks == 0) {
                door = door == DOOR_OPENING ? DOOR_OPEN : DOOR_SHUT;
            }
        }

        /** The order to store a car is made as the door gets shut, so the door tells whether it is. */
        boolean holdsCarWithoutOrder() {
            return ticket != NO_CAR && !fetched && door != DOOR_SHUT;
        }

        boolean isOpenAndClear() {
            return door == DOOR_OPEN && ticket == NO_CAR && !personIn;
        }

        boolean isSafe() {
            return door == DOOR_SHUT && !personIn;
        }

        void receive(int newTicket, int cell) {
            ticket = newTicket;
            keptCell = cell;
        }

        void putFetched(int newTicket) {
            ticket = newTicket;
            fetched = true;
        }

        void clear() {
            ticket = NO_CAR;
            fetched = false;
            keptCell = NONE;
        }
    }

    /** The orders as they were made: one to fetch has no kept cell, one to store has. */
    private static final class Orders {
        private final int[] tickets;
        private final int[] bays;
        private final int[] keptCells;
        private int count;

        Orders() {
            tickets = new int[MOST_ORDERS];
            bays = new int[MOST_ORDERS];
            keptCells = new int[MOST_ORDERS];
        }

        void add(int ticket, int bay, int keptCell) {
            if (count >= MOST_ORDERS) {
                return;
            }
            tickets[count] = ticket;
            bays[count] = bay;
            keptCells[count] = keptCell;
            count++;
        }

        void remove(int order) {
            count--;
            for (int i = order; i < count; i++) {
                tickets[i] = tickets[i + 1];
                bays[i] = bays[i + 1];
                keptCells[i] = keptCells[i + 1];
            }
        }

        boolean isFetch(int order) {
            return keptCells[order] == NONE;
        }

        boolean hasOneOf(int ticket) {
            for (int i = 0; i < count; i++) {
                if (tickets[i] == ticket) {
                    return true;
                }
            }
            return false;
        }

        int countFor(int bay) {
            int found = 0;
            for (int i = 0; i < count; i++) {
                if (bays[i] == bay) {
                    found++;
                }
            }
            return found;
        }

        int fetchesFor(int bay) {
            int found = 0;
            for (int i = 0; i < count; i++) {
                if (bays[i] == bay && isFetch(i)) {
                    found++;
                }
            }
            return found;
        }

        boolean firstWaitingIsFetch(int bay, int done) {
            for (int i = 0; i < count; i++) {
                if (i != done && bays[i] == bay) {
                    return isFetch(i);
                }
            }
            return false;
        }
    }
}
