import java.util.List;
import java.util.Random;

/** Long mixed runs, answered by the program and by the naive tower alike (all promises together). */
public final class ModelRunsTest {
    private static final int RUNS = 400;
    private static final int CALLS = 420;

    private final Random random;
    private final int run;
    private final int style;
    private final int carsFirst;
    private final ParkTower tower = new ParkTower();
    private final NaiveTower model = new NaiveTower();
    private boolean filling;

    private interface Answer {
        long get();
    }

    private ModelRunsTest(int run) {
        this.run = run;
        this.style = run % 4;
        this.random = new Random(run);
        this.carsFirst = random.nextInt(3) == 0 ? 0 : random.nextInt(30);
    }

    public static void main(String[] args) {
        for (int run = 0; run < RUNS; run++) {
            new ModelRunsTest(run).play();
        }
        Check.end();
    }

    private void play() {
        for (int i = 0; i < CALLS; i++) {
            filling = model.given.size() < carsFirst;
            String call = oneCall();
            if (call != null || !sameState()) {
                Check.fail("run " + run + " call " + i + ": " + (call == null ? "the state differs" : call));
                return;
            }
        }
    }

    /** Plays one call on both; null when both answer the same. */
    private String oneCall() {
        int bay = random.nextInt(2);
        return random.nextInt(100) < 60 ? sensibleCall(bay) : anyCall(bay);
    }

    /** What the people at a bay would do, so that many cars come and go. */
    private String sensibleCall(int bay) {
        NaiveTower.Bay place = model.bays[bay];
        if (!model.power && random.nextInt(5) == 0) {
            return powerCall(true);
        }
        if (!place.door.equals("open")) {
            return tickCall();
        }
        if (place.fetched) {
            return goneCall(bay);
        }
        if (place.ticket != 0) {
            return shutCall(bay);
        }
        return filling || random.nextInt(3) > 0 ? arriveCall(bay) : leaveCall();
    }

    private String anyCall(int bay) {
        int at = random.nextInt(20) == 0 ? random.nextInt(5) - 2 : bay;
        switch (random.nextInt(filling ? 4 : 10)) {
            case 0:
                return arriveCall(at);
            case 1:
                return planCall();
            case 2:
                return tickCall();
            case 3:
                return emptyAndOpen(at) && random.nextInt(20) > 0 ? tickCall() : shutCall(at);
            case 4:
                return goneCall(at);
            case 5:
                return troubleCall(at);
            default:
                return style == 2 || random.nextInt(4) == 0 ? leaveCall() : tickCall();
        }
    }

    /** Such a bay, once shut, opens for a fetched car alone: runs that shut it often soon stand still. */
    private boolean emptyAndOpen(int bay) {
        return bay >= 0 && bay < 2 && model.bays[bay].ticket == 0 && model.bays[bay].door.equals("open");
    }

    private String shutCall(int bay) {
        return compare("shut " + bay, () -> none(() -> tower.shut(bay)), () -> none(() -> model.shut(bay)));
    }

    private String goneCall(int bay) {
        return compare("gone " + bay, () -> tower.gone(bay), () -> model.gone(bay));
    }

    private String leaveCall() {
        int ticket = anyTicket();
        return compare("leave " + ticket, () -> tower.leave(ticket), () -> model.leave(ticket));
    }

    private String planCall() {
        int ticket = anyTicket();
        int i = random.nextInt(5) - 2;
        return compare("plan " + ticket + " " + i, () -> tower.plan(ticket, i), () -> model.plan(ticket, i));
    }

    private String tickCall() {
        int n = ticks();
        return compare("tick " + n, () -> tower.tick(n), () -> model.tick(n));
    }

    private String troubleCall(int bay) {
        int dice = random.nextInt(3);
        if (dice == 0) {
            boolean in = random.nextBoolean();
            return compare("person " + bay + " " + in,
                    () -> none(() -> tower.person(bay, in)), () -> none(() -> model.person(bay, in)));
        }
        if (dice == 1) {
            int level = random.nextInt(6) - 1;
            boolean on = random.nextInt(3) == 0;
            return compare("jam " + level + " " + on,
                    () -> none(() -> tower.jam(level, on)), () -> none(() -> model.jam(level, on)));
        }
        return powerCall(random.nextInt(4) == 0);
    }

    private String powerCall(boolean on) {
        return compare("power " + on, () -> none(() -> tower.power(on)), () -> none(() -> model.power(on)));
    }

    private String arriveCall(int bay) {
        int length = random.nextInt(30) == 0 ? random.nextInt(4) + 519 : 400;
        boolean onlyOneLevel = style < 2 && random.nextInt(10) > 0;
        int height = onlyOneLevel ? 210 : pick(150, 160, 161, 210, 211, 0);
        int weight = onlyOneLevel ? 3000 : pick(1500, 2000, 2001, 3000, 3001, -1);
        return compare("arrive " + bay + " " + length + " " + height + " " + weight,
                () -> tower.arrive(bay, length, height, weight), () -> model.arrive(bay, length, height, weight));
    }

    private int pick(int... values) {
        int place = random.nextInt(8 * values.length - 10);
        return values[Math.min(place / 8, values.length - 1)];
    }

    private int ticks() {
        int dice = random.nextInt(40);
        if (dice == 0) {
            return random.nextInt(3) - 1;
        }
        if (dice == 1) {
            return 499 + random.nextInt(3);
        }
        int most = style == 3 ? 4 : 50;
        return 1 + random.nextInt(most);
    }

    private int anyTicket() {
        List<Integer> given = model.given;
        if (given.isEmpty() || random.nextInt(12) == 0) {
            return random.nextInt(400) - 20;
        }
        for (int i = 0; i < 10; i++) {
            int held = model.cells[random.nextInt(96)];
            if (held > 0) {
                return held;
            }
        }
        return given.get(random.nextInt(given.size()));
    }

    private boolean sameState() {
        for (int i = 0; i < 96; i++) {
            if (tower.cell(i) != model.cell(i)) {
                return false;
            }
        }
        for (int what = 0; what < 7; what++) {
            if (tower.look(what) != model.look(what)) {
                return false;
            }
        }
        for (int what = 0; what < 5; what++) {
            if (tower.bay(0, what) != model.bay(0, what) || tower.bay(1, what) != model.bay(1, what)) {
                return false;
            }
        }
        return true;
    }

    private static long none(Check.Call call) {
        call.run();
        return 0;
    }

    private static String compare(String what, Answer program, Answer model) {
        String got = answerOf(program);
        String due = answerOf(model);
        return got.equals(due) ? null : what + " answered " + got + ", due is " + due;
    }

    private static String answerOf(Answer answer) {
        try {
            return Long.toString(answer.get());
        } catch (RuntimeException e) {
            return e.getClass().getName();
        }
    }
}
