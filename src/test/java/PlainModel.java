import java.util.ArrayList;
import java.util.Arrays;
import java.util.List;

/**
 * The document written a second time, as plainly as can be and without a thought of speed: what is
 * derived (counts, places, the wind) is worked out anew at every question.
 */
final class PlainModel {
    static final int GRIP = 1;
    static final int FULL = 2;
    static final int WIND = 4;
    static final int BUMP = 8;

    static final class Car {
        final int number;
        int zone = 0;
        int station = -1;
        boolean onRope = false;
        int done = 0;
        int age = 0;
        boolean clamping = false;
        int clampTicks = 0;
        int[] report = null;
        int trips = 0;
        int fault = 0;

        Car(int number) {
            this.number = number;
        }
    }

    final List<Car> cars = new ArrayList<>();
    final List<Car> siding = new ArrayList<>();
    final List<Integer> winds = new ArrayList<>();
    int locks = 0;
    int planned = 60;
    int drive = 0;
    int speed = 0;
    int ticks = 0;
    int moved = 0;

    PlainModel() {
        for (int i = 0; i < 60; i++) {
            cars.add(new Car(i));
        }
    }

    Car in(int station, int zone) {
        for (Car car : cars) {
            if (car.zone == zone && car.station == station) {
                return car;
            }
        }
        return null;
    }

    int inZones(int station) {
        int count = 0;
        for (int zone = 1; zone <= 12; zone++) {
            count += in(station, zone) == null ? 0 : 1;
        }
        return count;
    }

    int onRope() {
        int count = 0;
        for (Car car : cars) {
            count += car.onRope ? 1 : 0;
        }
        return count;
    }

    int wind() {
        int from = Math.max(0, winds.size() - 5);
        Integer[] last = winds.subList(from, winds.size()).toArray(new Integer[0]);
        Arrays.sort(last);
        return last.length == 0 ? 0 : last[last.length / 2];
    }

    private void letGo() {
        for (Car car : cars) {
            if (car.onRope && car.done == 5700 && in(1 - car.station, 1) == null) {
                car.onRope = false;
                car.station = 1 - car.station;
                car.zone = 1;
                car.age = 0;
            }
        }
    }

    private boolean oneIsAtTheEnd() {
        for (Car car : cars) {
            if (car.onRope && car.done == 5700) {
                return true;
            }
        }
        return false;
    }

    int pulse(int n) {
        letGo();
        int far = 0;
        for (int i = 0; i < n; i++) {
            if (oneIsAtTheEnd()) {
                locks |= BUMP;
            } else {
                for (Car car : cars) {
                    car.done += car.onRope ? 1 : 0;
                }
                letGo();
                far++;
            }
        }
        moved += far;
        return far;
    }

    int tick(int n) {
        for (int i = 0; i < n; i++) {
            if (wind() > 250) {
                locks |= WIND;
            }
            for (int station = 0; station < 2; station++) {
                for (int zone = 12; zone >= 1; zone--) {
                    Car car = in(station, zone);
                    if (car != null) {
                        car.age++;
                        if (zone == 12) {
                            workZone12(car);
                        } else if (car.age >= 15 && in(station, zone + 1) == null) {
                            car.zone++;
                            car.age = 0;
                        }
                    }
                }
            }
            speed += Integer.signum(target() - speed);
            ticks++;
        }
        return speed;
    }

    private void workZone12(Car car) {
        if (!car.clamping) {
            if (car.age >= 15 && locks == 0 && mayFollow(car.station)) {
                car.clamping = true;
                car.clampTicks = 0;
                car.report = null;
            }
            return;
        }
        car.clampTicks++;
        if (car.report != null) {
            int less = Math.min(car.report[0], car.report[1]);
            int more = Math.max(car.report[0], car.report[1]);
            if (less > 4000 && 100 * (more - less) <= 3 * more) {
                car.clamping = false;
                car.zone = 0;
                car.onRope = true;
                car.done = 0;
                car.trips++;
            } else {
                fail(car, less <= 4000 ? 1 : 2);
            }
        } else if (car.clampTicks == 40) {
            fail(car, 3);
        }
    }

    private void fail(Car car, int fault) {
        car.fault = fault;
        car.clamping = false;
        locks |= GRIP;
        if (siding.size() < 20) {
            toSiding(car);
        } else {
            locks |= FULL;
            car.age = 0;
        }
    }

    private void toSiding(Car car) {
        car.zone = 0;
        car.station = -1;
        siding.add(car);
    }

    private boolean mayFollow(int station) {
        int spacing = inZones(station) >= 6 ? 90 : Math.max(90, 12000 / planned);
        for (Car car : cars) {
            if (car.onRope && car.station == station && car.done < spacing) {
                return false;
            }
        }
        return true;
    }

    private int target() {
        if (locks != 0) {
            return 0;
        }
        for (Car car : cars) {
            if (car.onRope && car.done >= 5640 && in(1 - car.station, 1) != null) {
                return 0;
            }
        }
        return wind() > 180 ? Math.min(drive, 2) : drive;
    }

    boolean gauge(int station, int left, int right) {
        Car car = in(station, 12);
        if (car == null || !car.clamping) {
            return false;
        }
        car.report = new int[] {left, right};
        return true;
    }

    boolean drive(int step) {
        if (locks != 0) {
            return false;
        }
        drive = step;
        return true;
    }

    boolean isAway(Car car) {
        return !car.onRope && car.zone == 0 && !siding.contains(car);
    }

    boolean bring(int cabin) {
        Car car = cars.get(cabin);
        if (!isAway(car) || siding.size() == 20) {
            return false;
        }
        toSiding(car);
        return true;
    }

    boolean putOn(int station, int cabin) {
        Car car = cars.get(cabin);
        boolean may = siding.contains(car) && inZones(0) + inZones(1) + onRope() < planned;
        for (int zone = 1; zone <= 5; zone++) {
            may &= in(station, zone) == null;
        }
        if (may) {
            siding.remove(car);
            car.station = station;
            car.zone = 5;
            car.age = 0;
        }
        return may;
    }

    boolean takeOff(int station, int cabin) {
        Car car = cars.get(cabin);
        boolean may = car.zone >= 5 && car.zone <= 8 && car.station == station && siding.size() < 20;
        if (may) {
            toSiding(car);
        }
        return may;
    }

    int plan(int perHour) {
        planned = 1;
        while (15 * planned < perHour) {
            planned++;
        }
        return planned;
    }

    boolean release(int code) {
        boolean[] cause = {false, siding.size() == 20, wind() > 250, oneIsAtTheEnd()};
        if ((locks >> code & 1) == 0 || cause[code]) {
            return false;
        }
        locks -= 1 << code;
        return true;
    }

    int where(int cabin, int what) {
        Car car = cars.get(cabin);
        int place = siding.indexOf(car);
        boolean doors = car.zone == 5 && car.age >= 5 || car.zone == 6 || car.zone == 7 || car.zone == 8 && car.age < 10;
        int[] answers = {
            car.onRope ? 3 : car.zone > 0 ? 2 : place >= 0 ? 1 : 0,
            car.onRope ? car.done : car.zone > 0 ? car.zone : place,
            car.station,
            car.zone > 0 ? car.age : -1,
            car.clamping ? car.clampTicks : -1,
            doors ? 1 : 0,
            car.trips,
            car.fault,
        };
        return what >= 0 && what < answers.length ? answers[what] : -1;
    }

    /** Goes round the loop decimetre by decimetre until there is a cabin. */
    int gap(int cabin) {
        Car car = cars.get(cabin);
        if (!car.onRope) {
            return -1;
        }
        boolean[] taken = new boolean[12000];
        for (Car other : cars) {
            if (other.onRope) {
                taken[6000 * other.station + other.done] = true;
            }
        }
        int way = 1;
        while (!taken[(6000 * car.station + car.done + way) % 12000]) {
            way++;
        }
        return way;
    }

    int sided(int place) {
        return place >= 0 && place < siding.size() ? siding.get(place).number : -1;
    }

    int state(int what) {
        int trips = 0;
        for (Car car : cars) {
            trips += car.trips;
        }
        int[] answers = {
            speed, drive, planned, wind(), siding.size(), onRope(), inZones(0) + inZones(1), trips, ticks, moved,
        };
        return what >= 0 && what < answers.length ? answers[what] : -1;
    }
}
