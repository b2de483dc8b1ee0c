/**
 * The executive of a ropeway. The words in capitals (ZONE, SIDING, CLAMPING ..) are those of the
 * document's "Terms".
 */
public final class RopewayDesk {
    private static final int CABINS = 60;
    private static final int STATIONS = 2;
    private static final int LAST_ZONE = 12;
    private static final int SIDING_ROOM = 20;

    private static final int LOOP = 12000;
    private static final int HALF_LOOP = 6000;
    private static final int RUN = 5700;
    private static final int NEAR_END = 5640;

    private static final int AWAY = 0;
    private static final int IN_SIDING = 1;
    private static final int IN_ZONE = 2;
    private static final int ON_ROPE = 3;

    private static final int GRIP = 0;
    private static final int FULL = 1;
    private static final int WIND = 2;
    private static final int BUMP = 3;

    private static final int NO_FAULT = 0;
    private static final int WEAK = 1;
    private static final int UNEVEN = 2;
    private static final int UNREPORTED = 3;

    private static final int NONE = -1;

    private static final int MOST_PULSES = 600;
    private static final int MOST_TICKS = 100;
    private static final int MOST_FORCE = 20000;
    private static final int FORCE_TO_EXCEED = 4000;
    private static final int CLAMPING_TICKS = 40;
    private static final int ZONE_TICKS = 15;

    private static final int MOST_WIND = 1000;
    private static final int LOCKING_WIND = 250;
    private static final int SLOWING_WIND = 180;
    private static final int SLOW_STEP = 2;
    private static final int MOST_STEP = 5;

    private static final int MOST_PER_HOUR = 900;
    private static final int PER_HOUR_OF_ONE = 15;
    private static final int LEAST_SPACING = 90;
    private static final int CROWD = 6;

    private static final int ENTRY_ZONE = 5;
    private static final int LAST_EXIT_ZONE = 8;

    private final Fleet fleet = new Fleet();
    private final Station[] stations = new Station[STATIONS];
    private final Siding siding = new Siding();
    private final WindBook windBook = new WindBook();

    private int lockBits = 0;
    private int planned = 60;
    private int driveStep = 0;
    private int ropeSpeed = 0;
    private int ticksEver = 0;
    private int movedEver = 0;

    public RopewayDesk() {
        for (int i = 0; i < STATIONS; i++) {
            stations[i] = new Station(i);
        }
    }

    public int pulse(int n) throws IllegalArgumentException {
        if (n < 0 || n > MOST_PULSES) {
            throw new IllegalArgumentException("n is not 0 .. 600");
        }
        letGo();
        int moved = moveRope(n);
        movedEver += moved;
        return moved;
    }

    public int tick(int n) throws IllegalArgumentException {
        if (n < 1 || n > MOST_TICKS) {
            throw new IllegalArgumentException("n is not 1 .. 100");
        }
        for (int i = 0; i < n; i++) {
            passOneTick();
        }
        return ropeSpeed;
    }

    public boolean gauge(int station, int left, int right) throws IllegalArgumentException {
        checkStation(station);
        if (left < 0 || left > MOST_FORCE || right < 0 || right > MOST_FORCE) {
            throw new IllegalArgumentException("a force is not 0 .. 20,000");
        }
        Cabin cabin = stations[station].zones[LAST_ZONE];
        if (cabin == null || !cabin.isClamping()) {
            return false;
        }
        cabin.left = left;
        cabin.right = right;
        return true;
    }

    public void wind(int speed) throws IllegalArgumentException {
        if (speed < 0 || speed > MOST_WIND) {
            throw new IllegalArgumentException("the wind is not 0 .. 1,000");
        }
        windBook.report(speed);
    }

    public boolean drive(int step) throws IllegalArgumentException {
        if (step < 0 || step > MOST_STEP) {
            throw new IllegalArgumentException("the step is not 0 .. 5");
        }
        if (lockBits != 0) {
            return false;
        }
        driveStep = step;
        return true;
    }

    public boolean bring(int cabin) throws IllegalArgumentException {
        checkCabin(cabin);
        Cabin c = fleet.cabins[cabin];
        if (c.place != AWAY || !siding.hasRoom()) {
            return false;
        }
        siding.append(c);
        return true;
    }

    public boolean putOn(int station, int cabin) throws IllegalArgumentException {
        checkStation(station);
        checkCabin(cabin);
        Cabin c = fleet.cabins[cabin];
        Station s = stations[station];
        if (c.place != IN_SIDING || !s.isEmptyUpTo(ENTRY_ZONE)) {
            return false;
        }
        if (fleet.countAt(IN_ZONE) + fleet.countAt(ON_ROPE) >= planned) {
            return false;
        }
        siding.remove(c);
        s.admit(c, ENTRY_ZONE);
        return true;
    }

    public boolean takeOff(int station, int cabin) throws IllegalArgumentException {
        checkStation(station);
        checkCabin(cabin);
        Cabin c = fleet.cabins[cabin];
        if (c.place != IN_ZONE || c.station != station) {
            return false;
        }
        if (c.zone < ENTRY_ZONE || c.zone > LAST_EXIT_ZONE || !siding.hasRoom()) {
            return false;
        }
        stations[station].zones[c.zone] = null;
        siding.append(c);
        return true;
    }

    public int plan(int perHour) throws IllegalArgumentException {
        if (perHour < 1 || perHour > MOST_PER_HOUR) {
            throw new IllegalArgumentException("it is not 1 .. 900 an hour");
        }
        planned = (perHour + PER_HOUR_OF_ONE - 1) / PER_HOUR_OF_ONE;
        return planned;
    }

    public boolean release(int code) throws IllegalArgumentException {
        if (code < GRIP || code > BUMP) {
            throw new IllegalArgumentException("no such lock");
        }
        int bit = 1 << code;
        if ((lockBits & bit) == 0 || hasCauseStill(code)) {
            return false;
        }
        lockBits &= ~bit;
        return true;
    }

    public int locks() {
        return lockBits;
    }

    public int where(int cabin, int what) throws IllegalArgumentException {
        checkCabin(cabin);
        Cabin c = fleet.cabins[cabin];
        switch (what) {
            case 0:
                return c.place;
            case 1:
                return spotOf(c);
            case 2:
                return c.station;
            case 3:
                return c.age;
            case 4:
                return c.clampedFor;
            case 5:
                return c.hasDoorsOpen() ? 1 : 0;
            case 6:
                return c.trips;
            case 7:
                return c.fault;
            default:
                return -1;
        }
    }

    public int gap(int cabin) throws IllegalArgumentException {
        checkCabin(cabin);
        Cabin c = fleet.cabins[cabin];
        return c.place == ON_ROPE ? fleet.wayAhead(c) : -1;
    }

    public int sided(int place) {
        Cabin cabin = siding.cabinAt(place);
        return cabin == null ? -1 : cabin.number;
    }

    public int state(int what) {
        switch (what) {
            case 0:
                return ropeSpeed;
            case 1:
                return driveStep;
            case 2:
                return planned;
            case 3:
                return windBook.middle;
            case 4:
                return siding.size;
            case 5:
                return fleet.countAt(ON_ROPE);
            case 6:
                return fleet.countAt(IN_ZONE);
            case 7:
                return fleet.tripsOfAll();
            case 8:
                return ticksEver;
            case 9:
                return movedEver;
            default:
                return -1;
        }
    }

    private static void checkStation(int station) {
        if (station < 0 || station >= STATIONS) {
            throw new IllegalArgumentException("no such station");
        }
    }

    private static void checkCabin(int cabin) {
        if (cabin < 0 || cabin >= CABINS) {
            throw new IllegalArgumentException("no such cabin");
        }
    }

    private void lock(int code) {
        lockBits |= 1 << code;
    }

    private boolean hasCauseStill(int code) {
        switch (code) {
            case FULL:
                return !siding.hasRoom();
            case WIND:
                return windBook.middle > LOCKING_WIND;
            case BUMP:
                return fleet.farthest() >= RUN;
            default:
                return false;
        }
    }

    private int spotOf(Cabin cabin) {
        switch (cabin.place) {
            case IN_SIDING:
                return siding.placeOf(cabin);
            case IN_ZONE:
                return cabin.zone;
            case ON_ROPE:
                return cabin.done;
            default:
                return -1;
        }
    }

    private void letGo() {
        for (int i = 0; i < CABINS; i++) {
            Cabin cabin = fleet.cabins[i];
            if (cabin.place == ON_ROPE && cabin.done >= RUN) {
                Station ahead = stations[STATIONS - 1 - cabin.station];
                if (ahead.zones[1] == null) {
                    ahead.admit(cabin, 1);
                }
            }
        }
    }

    /** Goes from one arrival to the next at once, as nothing can happen to a cabin in between. */
    private int moveRope(int n) {
        int moved = 0;
        while (moved < n) {
            int free = RUN - fleet.farthest();
            if (free <= 0) {
                lock(BUMP);
                return moved;
            }
            int step = Math.min(free, n - moved);
            fleet.advance(step);
            letGo();
            moved += step;
        }
        return moved;
    }

    private void passOneTick() {
        if (windBook.middle > LOCKING_WIND) {
            lock(WIND);
        }
        for (int i = 0; i < STATIONS; i++) {
            workZones(stations[i]);
        }
        int target = targetSpeed();
        if (ropeSpeed < target) {
            ropeSpeed++;
        } else if (ropeSpeed > target) {
            ropeSpeed--;
        }
        ticksEver++;
    }

    private void workZones(Station station) {
        for (int zone = LAST_ZONE; zone >= 1; zone--) {
            Cabin cabin = station.zones[zone];
            if (cabin != null) {
                cabin.age++;
                if (zone < LAST_ZONE) {
                    station.goOn(zone);
                } else if (cabin.isClamping()) {
                    goOnClamping(station, cabin);
                } else if (mayClamp(station, cabin)) {
                    cabin.clampedFor = 0;
                }
            }
        }
    }

    private boolean mayClamp(Station station, Cabin cabin) {
        return cabin.age >= ZONE_TICKS && lockBits == 0 && fleet.isClear(station.number, spacing(station));
    }

    private int spacing(Station station) {
        if (station.count() >= CROWD) {
            return LEAST_SPACING;
        }
        // PLANNED is never under 1, yet rule 7 of LANGUAGE.md asks to look at a divisor before it divides.
        return Math.max(LOOP / Math.max(planned, 1), LEAST_SPACING);
    }

    private void goOnClamping(Station station, Cabin cabin) {
        cabin.clampedFor++;
        if (cabin.hasReport()) {
            int fault = cabin.faultOfReport();
            if (fault == NO_FAULT) {
                leave(station, cabin);
            } else {
                fail(station, cabin, fault);
            }
        } else if (cabin.clampedFor >= CLAMPING_TICKS) {
            fail(station, cabin, UNREPORTED);
        }
    }

    private void leave(Station station, Cabin cabin) {
        station.zones[LAST_ZONE] = null;
        cabin.stopClamping();
        cabin.standAt(ON_ROPE);
        cabin.station = station.number;
        cabin.done = 0;
        cabin.trips++;
    }

    private void fail(Station station, Cabin cabin, int fault) {
        cabin.fault = fault;
        cabin.stopClamping();
        lock(GRIP);
        if (siding.hasRoom()) {
            station.zones[LAST_ZONE] = null;
            siding.append(cabin);
        } else {
            lock(FULL);
            cabin.age = 0;
        }
    }

    private int targetSpeed() {
        if (lockBits != 0 || isArrivalHeldUp()) {
            return 0;
        }
        return windBook.middle > SLOWING_WIND ? Math.min(driveStep, SLOW_STEP) : driveStep;
    }

    private boolean isArrivalHeldUp() {
        for (int i = 0; i < STATIONS; i++) {
            if (stations[i].zones[1] != null && fleet.hasNearEnd(STATIONS - 1 - i)) {
                return true;
            }
        }
        return false;
    }

    private static final class Cabin {
        final int number;
        int place = AWAY;
        int station = NONE;
        int zone = NONE;
        int done = 0;
        int age = NONE;
        int clampedFor = NONE;
        int left = NONE;
        int right = NONE;
        int trips = 0;
        int fault = NO_FAULT;

        Cabin(int number) {
            this.number = number;
        }

        /** Forgets what held at the place before, so that nothing of it shows at the new one. */
        void standAt(int newPlace) {
            place = newPlace;
            station = NONE;
            zone = NONE;
            age = NONE;
        }

        void stopClamping() {
            clampedFor = NONE;
            left = NONE;
            right = NONE;
        }

        boolean isClamping() {
            return clampedFor >= 0;
        }

        boolean hasReport() {
            return left >= 0;
        }

        int faultOfReport() {
            if (left <= FORCE_TO_EXCEED || right <= FORCE_TO_EXCEED) {
                return WEAK;
            }
            boolean even = 100 * Math.abs(left - right) <= 3 * Math.max(left, right);
            return even ? NO_FAULT : UNEVEN;
        }

        boolean hasDoorsOpen() {
            switch (zone) {
                case 5:
                    return age >= 5;
                case 6:
                case 7:
                    return true;
                case 8:
                    return age < 10;
                default:
                    return false;
            }
        }
    }

    private static final class Station {
        final int number;
        /** Place 0 stays empty, so that a zone's number is its index. */
        final Cabin[] zones = new Cabin[LAST_ZONE + 1];

        Station(int number) {
            this.number = number;
        }

        void admit(Cabin cabin, int zone) {
            cabin.standAt(IN_ZONE);
            cabin.station = number;
            cabin.zone = zone;
            cabin.age = 0;
            zones[zone] = cabin;
        }

        void goOn(int zone) {
            Cabin cabin = zones[zone];
            if (cabin != null && cabin.age >= ZONE_TICKS && zones[zone + 1] == null) {
                zones[zone] = null;
                admit(cabin, zone + 1);
            }
        }

        boolean isEmptyUpTo(int zone) {
            for (int i = 1; i <= zone; i++) {
                if (zones[i] != null) {
                    return false;
                }
            }
            return true;
        }

        int count() {
            int count = 0;
            for (int i = 1; i <= LAST_ZONE; i++) {
                if (zones[i] != null) {
                    count++;
                }
            }
            return count;
        }
    }

    private static final class Siding {
        final Cabin[] row = new Cabin[SIDING_ROOM];
        int size = 0;

        boolean hasRoom() {
            return size < SIDING_ROOM;
        }

        Cabin cabinAt(int place) {
            return place < 0 || place >= size ? null : row[place];
        }

        void append(Cabin cabin) {
            if (hasRoom()) {
                cabin.standAt(IN_SIDING);
                row[size] = cabin;
                size++;
            }
        }

        void remove(Cabin cabin) {
            int place = placeOf(cabin);
            if (place < 0) {
                return;
            }
            for (int i = place + 1; i < size; i++) {
                row[i - 1] = row[i];
            }
            size--;
            row[size] = null;
        }

        int placeOf(Cabin cabin) {
            for (int i = 0; i < size; i++) {
                if (row[i] == cabin) {
                    return i;
                }
            }
            return NONE;
        }
    }

    private static final class Fleet {
        final Cabin[] cabins = new Cabin[CABINS];

        Fleet() {
            for (int i = 0; i < CABINS; i++) {
                cabins[i] = new Cabin(i);
            }
        }

        int countAt(int place) {
            int count = 0;
            for (int i = 0; i < CABINS; i++) {
                if (cabins[i].place == place) {
                    count++;
                }
            }
            return count;
        }

        int tripsOfAll() {
            int trips = 0;
            for (int i = 0; i < CABINS; i++) {
                trips += cabins[i].trips;
            }
            return trips;
        }

        int farthest() {
            int farthest = 0;
            for (int i = 0; i < CABINS; i++) {
                if (cabins[i].place == ON_ROPE) {
                    farthest = Math.max(farthest, cabins[i].done);
                }
            }
            return farthest;
        }

        void advance(int step) {
            for (int i = 0; i < CABINS; i++) {
                if (cabins[i].place == ON_ROPE) {
                    cabins[i].done += step;
                }
            }
        }

        boolean isClear(int station, int spacing) {
            for (int i = 0; i < CABINS; i++) {
                if (hasLeft(cabins[i], station) && cabins[i].done < spacing) {
                    return false;
                }
            }
            return true;
        }

        boolean hasNearEnd(int station) {
            for (int i = 0; i < CABINS; i++) {
                if (hasLeft(cabins[i], station) && cabins[i].done >= NEAR_END) {
                    return true;
                }
            }
            return false;
        }

        int wayAhead(Cabin cabin) {
            int least = LOOP;
            for (int i = 0; i < CABINS; i++) {
                Cabin other = cabins[i];
                if (other != cabin && other.place == ON_ROPE) {
                    least = Math.min(least, Math.floorMod(spot(other) - spot(cabin), LOOP));
                }
            }
            return least;
        }

        private static boolean hasLeft(Cabin cabin, int station) {
            return cabin.place == ON_ROPE && cabin.station == station;
        }

        private static int spot(Cabin cabin) {
            return HALF_LOOP * cabin.station + cabin.done;
        }
    }

    /** Keeps the WIND ready with each report, since every tick asks for it. */
    private static final class WindBook {
        private static final int KEPT = 5;

        private final int[] latest = new int[KEPT];
        private final int[] bySize = new int[KEPT];
        private int kept = 0;
        private int oldest = 0;
        int middle = 0;

        void report(int speed) {
            if (kept < KEPT) {
                latest[kept] = speed;
                kept++;
            } else {
                latest[oldest] = speed;
                oldest = (oldest + 1) % KEPT;
            }
            for (int i = 0; i < kept; i++) {
                sortIn(latest[i], i);
            }
            middle = bySize[kept / 2];
        }

        private void sortIn(int speed, int sorted) {
            int at = sorted;
            while (at > 0 && bySize[at - 1] > speed) {
                bySize[at] = bySize[at - 1];
                at--;
            }
            bySize[at] = speed;
        }
    }
}
