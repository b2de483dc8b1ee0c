/**
 * Long runs of calls, the same ones every time, against PlainModel. What a run does next leans on
 * the model's state, so that cabins get round, get stuck, fail and fill the siding; the test also
 * fails when the runs do not come to such states any more.
 */
public final class ModelTest {
    private static final int RUNS = 300;
    /** An object's answers are free after its 512th call, and one step makes three calls at most. */
    private static final int CALLS = 512;
    private static final int CALLS_OF_A_STEP = 3;
    private static final Checks CHECKS = new Checks("ModelTest");

    private static final int[] SEEN_LOCKS = new int[16];
    private static final int[] SEEN_FAULTS = new int[4];
    private static int mostOnRope = 0;
    private static int mostInStation = 0;
    private static int mostTrips = 0;

    private final RopewayDesk desk = new RopewayDesk();
    private final PlainModel model = new PlainModel();
    private final int run;
    /** How readily this run gives bad reports, brings cabins, and lets time pass. */
    private final int badness;
    private final int eagerness;
    private final int longestTicks;
    private long seed;
    private int calls = 0;

    private ModelTest(int run) {
        this.run = run;
        this.seed = 7919L * run + 17;
        this.badness = run % 5 == 0 ? 0 : below(40);
        this.eagerness = 5 + below(80);
        this.longestTicks = 5 + below(35);
    }

    public static void main(String[] args) {
        for (int run = 0; run < RUNS; run++) {
            new ModelTest(run).play();
        }
        CHECKS.yes("GRIP was seen", SEEN_LOCKS[1] > 0);
        CHECKS.yes("FULL was seen", SEEN_LOCKS[2] > 0);
        CHECKS.yes("WIND was seen", SEEN_LOCKS[4] > 0);
        CHECKS.yes("BUMP was seen", SEEN_LOCKS[8] > 0);
        for (int fault = 1; fault <= 3; fault++) {
            CHECKS.yes("fault " + fault + " was seen", SEEN_FAULTS[fault] > 0);
        }
        CHECKS.yes("ten and more were on the rope, not " + mostOnRope, mostOnRope >= 10);
        CHECKS.yes("eight and more were in a station, not " + mostInStation, mostInStation >= 8);
        CHECKS.yes("a cabin made three trips, not " + mostTrips, mostTrips >= 3);
        CHECKS.end();
    }

    private void play() {
        while (calls + CALLS_OF_A_STEP <= CALLS) {
            if (below(100) < 35) {
                ask();
            } else {
                act();
            }
            note();
        }
    }

    private int below(int n) {
        seed = seed * 6364136223846793005L + 1442695040888963407L;
        return (int) ((seed >>> 33) % n);
    }

    private void note() {
        for (int code = 0; code < 4; code++) {
            SEEN_LOCKS[model.locks & 1 << code]++;
        }
        mostOnRope = Math.max(mostOnRope, model.onRope());
        mostInStation = Math.max(mostInStation, Math.max(model.inZones(0), model.inZones(1)));
        for (PlainModel.Car car : model.cars) {
            SEEN_FAULTS[car.fault]++;
            mostTrips = Math.max(mostTrips, car.trips);
        }
    }

    private void due(String call, int got, int want) {
        calls++;
        CHECKS.due("run " + run + ", call " + calls + ": " + call, got, want);
    }

    private void due(String call, boolean got, boolean want) {
        due(call, got ? 1 : 0, want ? 1 : 0);
    }

    private void refused(String call, Checks.Call made) {
        calls++;
        CHECKS.refused("run " + run + ", call " + calls + ": " + call, made);
    }

    private int anyCabin() {
        return below(run % 3 == 0 ? 60 : 30);
    }

    private int anyLock() {
        int code = below(4);
        for (int i = 0; i < 4 && (model.locks >> code & 1) == 0 && below(4) > 0; i++) {
            code = (code + 1) % 4;
        }
        return code;
    }

    private void ask() {
        int cabin = anyCabin();
        switch (below(5)) {
            case 0 -> due("locks()", desk.locks(), model.locks);
            case 1 -> {
                int what = below(12) - 1;
                due("state(" + what + ")", desk.state(what), model.state(what));
            }
            case 2 -> due("gap(" + cabin + ")", desk.gap(cabin), model.gap(cabin));
            case 3 -> {
                int place = below(23) - 1;
                due("sided(" + place + ")", desk.sided(place), model.sided(place));
            }
            default -> {
                int what = below(10) - 1;
                due("where(" + cabin + ", " + what + ")", desk.where(cabin, what), model.where(cabin, what));
            }
        }
    }

    private void act() {
        int dice = below(100);
        if (dice < 25) {
            tick(1 + below(below(8) == 0 ? 100 : longestTicks));
        } else if (dice < 45) {
            pulse(run % 4 == 1 || below(3) == 0 ? below(601) : 80 + below(200));
        } else if (dice < 60) {
            gauge(below(2));
        } else if (dice < 75) {
            bringOrPutOn();
        } else if (dice < 79) {
            int cabin = anyCabin();
            int station = below(2);
            if (below(4) == 0) {
                due("takeOff(" + station + ", " + cabin + ")", desk.takeOff(station, cabin), model.takeOff(station, cabin));
            }
        } else if (dice < 83) {
            int step = below(6);
            due("drive(" + step + ")", desk.drive(step), model.drive(step));
        } else if (dice < 87) {
            wind(below(10) == 0 ? below(1001) : below(270));
        } else if (dice < 88) {
            int perHour = below(3) == 0 ? 1 + below(900) : 700 + below(201);
            due("plan(" + perHour + ")", desk.plan(perHour), model.plan(perHour));
        } else if (dice < 98) {
            int code = anyLock();
            due("release(" + code + ")", desk.release(code), model.release(code));
        } else {
            wrongCall();
        }
    }

    private void tick(int n) {
        due("tick(" + n + ")", desk.tick(n), model.tick(n));
        for (int station = 0; station < 2; station++) {
            PlainModel.Car last = model.in(station, 12);
            if (last != null && last.clamping && below(100) < 80) {
                gauge(station);
            }
        }
    }

    private void pulse(int n) {
        due("pulse(" + n + ")", desk.pulse(n), model.pulse(n));
    }

    private void gauge(int station) {
        int left = 4001 + below(16000);
        int right = Math.min(20000, left + below(left / 34));
        if (below(100) < badness) {
            left = below(3) == 0 ? 3990 + below(20) : left;
            right = below(2) == 0 ? 3990 + below(20) : Math.min(20000, left + left / 35 + below(left / 200));
        }
        String call = "gauge(" + station + ", " + left + ", " + right + ")";
        due(call, desk.gauge(station, left, right), model.gauge(station, left, right));
    }

    private void bringOrPutOn() {
        int cabin = anyCabin();
        if (below(100) < eagerness) {
            due("bring(" + cabin + ")", desk.bring(cabin), model.bring(cabin));
            return;
        }
        int station = below(2);
        if (!model.siding.isEmpty() && below(5) > 0) {
            cabin = model.siding.get(below(model.siding.size())).number;
        }
        due("putOn(" + station + ", " + cabin + ")", desk.putOn(station, cabin), model.putOn(station, cabin));
    }

    private void wind(int speed) {
        calls++;
        desk.wind(speed);
        model.winds.add(speed);
    }

    private void wrongCall() {
        int far = below(2) == 0 ? -1 - below(3) : Integer.MIN_VALUE + below(3);
        int cabin = anyCabin();
        int station = below(2);
        switch (below(12)) {
            case 0 -> refused("pulse", () -> desk.pulse(far));
            case 1 -> refused("tick", () -> desk.tick(far));
            case 2 -> refused("gauge", () -> desk.gauge(station, far, 9000));
            case 3 -> refused("gauge", () -> desk.gauge(far, 9000, 9000));
            case 4 -> refused("wind", () -> desk.wind(far));
            case 5 -> refused("drive", () -> desk.drive(far));
            case 6 -> refused("bring", () -> desk.bring(60 - far));
            case 7 -> refused("putOn", () -> desk.putOn(station, far));
            case 8 -> refused("putOn", () -> desk.putOn(far, cabin));
            case 9 -> refused("takeOff", () -> desk.takeOff(far, cabin));
            case 10 -> refused("plan", () -> desk.plan(far));
            default -> refused("release", () -> desk.release(far));
        }
    }
}
