import java.util.ArrayList;
import java.util.List;

/**
 * The document's rules once more, written as plainly as can be and without thought of room or speed:
 * the plan is searched for over all rows of moves, and an order is a list of its steps.
 */
final class NaiveTower {
    private static final int KEPT = -1;

    final int[] cells = new int[96];
    final boolean[] jammed = new boolean[4];
    final Bay[] bays = {new Bay(), new Bay()};
    final List<Order> orders = new ArrayList<>();
    final List<Integer> given = new ArrayList<>();
    Order current;
    int stepsEnded;
    int left;
    int lift;
    boolean power = true;
    int run;
    int time;

    static final class Bay {
        String door = "open";
        int doorLeft;
        boolean person;
        int ticket;
        boolean fetched;
        boolean ordered;
        int target;
    }

    static final class Order {
        final boolean fetch;
        final int ticket;
        final int bay;
        int cell;
        final List<String> steps = new ArrayList<>();
        List<int[]> moves = List.of();

        Order(boolean fetch, int ticket, int bay, int cell) {
            this.fetch = fetch;
            this.ticket = ticket;
            this.bay = bay;
            this.cell = cell;
        }
    }

    int arrive(int b, int length, int height, int weight) {
        if (b < 0 || b > 1 || length <= 0 || height <= 0 || weight <= 0) {
            throw new IllegalArgumentException();
        }
        Bay bay = bays[b];
        if (bay.ticket != 0) {
            return -1;
        }
        if (!bay.door.equals("open")) {
            return -2;
        }
        if (length > 520 || height > 210 || weight > 3000) {
            return -3;
        }
        int target = findCell(height, weight);
        if (target < 0) {
            return -4;
        }
        if (!power) {
            return -5;
        }
        if (orderCount() >= 24) {
            return -6;
        }
        bay.ticket = nextTicket();
        bay.fetched = false;
        bay.ordered = false;
        bay.target = target;
        given.add(bay.ticket);
        cells[target] = KEPT;
        if (target % 2 == 1) {
            cells[target - 1] = KEPT;
        }
        return bay.ticket;
    }

    private int nextTicket() {
        int serial = given.isEmpty() ? 1 : given.get(given.size() - 1) / 10 + 1;
        while (true) {
            for (int e = 0; e <= 9; e++) {
                String text = String.format("%04d", serial);
                int sum = e;
                for (int i = 0; i < 4; i++) {
                    sum += (5 - i) * (text.charAt(i) - '0');
                }
                if (sum % 11 == 0) {
                    return 10 * serial + e;
                }
            }
            serial++;
        }
    }

    private int findCell(int height, int weight) {
        for (int l = 0; l < 4; l++) {
            boolean fits = height <= (l >= 2 ? 210 : 160) && weight <= (l == 1 || l == 3 ? 3000 : 2000);
            boolean fetching = current != null && current.fetch && current.cell / 24 == l;
            int free = 0;
            for (int i = 24 * l; i < 24 * l + 24; i++) {
                free += cells[i] == 0 ? 1 : 0;
            }
            if (!fits || jammed[l] || fetching || free < 2) {
                continue;
            }
            for (int c = 0; c < 6; c++) {
                for (int r = 0; r < 2; r++) {
                    for (int d = 1; d >= 0; d--) {
                        int cell = 24 * l + 12 * r + 2 * c + d;
                        boolean good = d == 1 ? cells[cell - 1] == 0 : cells[cell + 1] > 0;
                        if (cells[cell] == 0 && good) {
                            return cell;
                        }
                    }
                }
            }
        }
        return -1;
    }

    private int orderCount() {
        int count = orders.size();
        for (Bay bay : bays) {
            count += bay.ticket != 0 && !bay.fetched && !bay.ordered ? 1 : 0;
        }
        return count;
    }

    void shut(int b) {
        Bay bay = bays[checkBay(b)];
        if (!bay.door.equals("open") || bay.person || bay.fetched || !power) {
            throw new IllegalStateException();
        }
        setDoor(bay, "shutting");
    }

    void person(int b, boolean in) {
        Bay bay = bays[checkBay(b)];
        if (in && bay.door.equals("shut")) {
            throw new IllegalStateException();
        }
        bay.person = in;
        if (in && bay.door.equals("shutting")) {
            setDoor(bay, "opening");
        }
    }

    int gone(int b) {
        Bay bay = bays[checkBay(b)];
        if (bay.ticket == 0 || !bay.fetched || !bay.door.equals("open")) {
            throw new IllegalStateException();
        }
        int ticket = bay.ticket;
        bay.ticket = 0;
        bay.fetched = false;
        return ticket;
    }

    int leave(int ticket) {
        if (!given.contains(ticket)) {
            throw new IllegalArgumentException();
        }
        int[] fetches = new int[2];
        boolean asked = false;
        for (Order order : orders) {
            fetches[order.bay] += order.fetch ? 1 : 0;
            asked |= order.ticket == ticket;
        }
        if (cellOf(ticket) < 0 || asked || orderCount() >= 24) {
            throw new IllegalStateException();
        }
        int bay = fetches[0] <= fetches[1] ? 0 : 1;
        orders.add(new Order(true, ticket, bay, -1));
        return bay;
    }

    void jam(int level, boolean on) {
        if (level < 0 || level > 3) {
            throw new IllegalArgumentException();
        }
        jammed[level] = on;
    }

    void power(boolean on) {
        if (on == power) {
            throw new IllegalStateException();
        }
        power = on;
        run = on ? 5 : run;
    }

    int tick(int n) {
        if (n < 1 || n > 500) {
            throw new IllegalArgumentException();
        }
        for (int i = 0; i < n; i++) {
            time++;
            if (power) {
                tickDoor(0);
                tickDoor(1);
            }
            if (run > 0) {
                run--;
            } else {
                tickOrders();
            }
        }
        return time;
    }

    private void tickDoor(int b) {
        Bay bay = bays[b];
        if (bay.door.equals("opening") && --bay.doorLeft == 0) {
            bay.door = "open";
        }
        if (bay.door.equals("shutting") && --bay.doorLeft == 0) {
            bay.door = "shut";
            if (bay.ticket != 0 && !bay.fetched) {
                orders.add(new Order(false, bay.ticket, b, bay.target));
                bay.ordered = true;
            }
        }
        if (bay.door.equals("open") && bay.ticket == 0 && !bay.person) {
            for (Order order : orders) {
                if (order.bay == b && order != current) {
                    if (order.fetch) {
                        setDoor(bay, "shutting");
                    }
                    break;
                }
            }
        }
    }

    private void tickOrders() {
        if (current == null) {
            for (Order order : orders) {
                if (mayBegin(order)) {
                    begin(order);
                    break;
                }
            }
        }
        if (current == null) {
            return;
        }
        String step = current.steps.get(stepsEnded);
        Bay bay = bays[current.bay];
        boolean atBay = step.equals("take from bay") || step.equals("put into bay");
        boolean atLevel = !atBay && !step.startsWith("lift");
        if (!power || atBay && (!bay.door.equals("shut") || bay.person) || atLevel && jammed[current.cell / 24]) {
            return;
        }
        left--;
        if (left == 0) {
            finish(step, bay);
            stepsEnded++;
            passOver();
        }
    }

    private boolean mayBegin(Order order) {
        if (!order.fetch) {
            return true;
        }
        int cell = cellOf(order.ticket);
        Bay bay = bays[order.bay];
        return !jammed[cell / 24] && planOf(cell) != null && bay.ticket == 0 && bay.door.equals("shut") && !bay.person;
    }

    private void begin(Order order) {
        current = order;
        stepsEnded = 0;
        if (order.fetch) {
            order.cell = cellOf(order.ticket);
            order.moves = planOf(order.cell);
            order.steps.add("lift up");
            for (int i = 0; i < order.moves.size(); i++) {
                order.steps.add("move " + i);
            }
            order.steps.addAll(List.of("take from cell", "lift down", "put into bay"));
        } else {
            order.steps.addAll(List.of("lift down", "take from bay", "lift up", "put into cell"));
        }
        passOver();
    }

    private void passOver() {
        while (stepsEnded < current.steps.size()) {
            left = ticks(current.steps.get(stepsEnded));
            if (left > 0) {
                return;
            }
            stepsEnded++;
        }
        orders.remove(current);
        current = null;
        stepsEnded = 0;
        left = 0;
    }

    private int ticks(String step) {
        switch (step) {
            case "lift down":
                return 3 * lift;
            case "lift up":
                return 3 * Math.abs(current.cell / 24 - lift);
            case "take from bay":
            case "put into bay":
                return 2;
            case "take from cell":
            case "put into cell":
                return cellTicks(current.cell);
            default:
                int[] move = current.moves.get(Integer.parseInt(step.substring(5)));
                return cellTicks(move[0]) + cellTicks(move[1]);
        }
    }

    private static int cellTicks(int cell) {
        int c = cell % 24 % 12 / 2;
        return 2 * (c + 1) + 2 + cell % 2;
    }

    private void finish(String step, Bay bay) {
        switch (step) {
            case "lift down":
                lift = 0;
                break;
            case "lift up":
                lift = current.cell / 24;
                break;
            case "take from bay":
                bay.ticket = 0;
                setDoor(bay, "opening");
                break;
            case "put into bay":
                bay.ticket = current.ticket;
                bay.fetched = true;
                setDoor(bay, "opening");
                break;
            case "take from cell":
                cells[current.cell] = 0;
                break;
            case "put into cell":
                cells[current.cell] = current.ticket;
                if (current.cell % 2 == 1) {
                    cells[current.cell - 1] = 0;
                }
                break;
            default:
                int[] move = current.moves.get(Integer.parseInt(step.substring(5)));
                cells[move[1]] = cells[move[0]];
                cells[move[0]] = 0;
        }
    }

    private static void setDoor(Bay bay, String door) {
        bay.door = door;
        bay.doorLeft = 4;
    }

    private static int checkBay(int b) {
        if (b != 0 && b != 1) {
            throw new IllegalArgumentException();
        }
        return b;
    }

    int cellOf(int ticket) {
        for (int i = 0; i < 96; i++) {
            if (cells[i] == ticket) {
                return i;
            }
        }
        return -1;
    }

    int plan(int ticket, int i) {
        if (!given.contains(ticket)) {
            throw new IllegalArgumentException();
        }
        int cell = cellOf(ticket);
        if (cell < 0) {
            throw new IllegalStateException();
        }
        List<int[]> moves = planOf(cell);
        if (i == -1) {
            return moves == null ? -1 : moves.size();
        }
        if (moves == null || i < 0 || i >= moves.size()) {
            throw new IndexOutOfBoundsException();
        }
        return 100 * moves.get(i)[0] + moves.get(i)[1];
    }

    /** All rows of moves, shorter ones first and those of one length in the document's order. */
    private List<int[]> planOf(int car) {
        for (int length = 0; length <= 3; length++) {
            List<int[]> moves = new ArrayList<>();
            if (search(cells.clone(), car, length, moves)) {
                return moves;
            }
        }
        return null;
    }

    private static boolean search(int[] now, int car, int length, List<int[]> moves) {
        if (length == 0) {
            return reached(now, car);
        }
        int first = car / 24 * 24;
        for (int from = first; from < first + 24; from++) {
            if (from == car || now[from] <= 0 || !reached(now, from)) {
                continue;
            }
            for (int to = first; to < first + 24; to++) {
                if (now[to] != 0 || to % 2 == 0 && now[to + 1] == KEPT) {
                    continue;
                }
                int[] then = now.clone();
                then[from] = 0;
                if (!reached(then, to)) {
                    continue;
                }
                then[to] = now[from];
                moves.add(new int[] {from, to});
                if (search(then, car, length - 1, moves)) {
                    return true;
                }
                moves.remove(moves.size() - 1);
            }
        }
        return false;
    }

    private static boolean reached(int[] now, int cell) {
        return cell % 2 == 0 || now[cell - 1] <= 0;
    }

    int bay(int b, int what) {
        Bay bay = bays[checkBay(b)];
        int count = 0;
        for (Order order : orders) {
            count += order.bay == b ? 1 : 0;
        }
        int[] answers = {
            List.of("shut", "opening", "open", "shutting").indexOf(bay.door),
            bay.person ? 1 : 0,
            bay.ticket,
            bay.fetched ? 1 : 0,
            count
        };
        if (what < 0 || what >= answers.length) {
            throw new IllegalArgumentException();
        }
        return answers[what];
    }

    int look(int what) {
        int cars = 0;
        for (int held : cells) {
            cars += held > 0 ? 1 : 0;
        }
        int[] answers = {
            orders.size(),
            current == null ? 0 : current.ticket,
            stepsEnded,
            left,
            lift,
            cars,
            given.isEmpty() ? 0 : given.get(given.size() - 1) / 10
        };
        if (what < 0 || what >= answers.length) {
            throw new IllegalArgumentException();
        }
        return answers[what];
    }

    int cell(int i) {
        if (i < 0 || i > 95) {
            throw new IllegalArgumentException();
        }
        return cells[i];
    }
}
