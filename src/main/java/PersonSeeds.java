import java.util.Arrays;

/** Persons that hang on a seed and go, minute by minute, through the doors and rooms of a house. */
public final class PersonSeeds {
    public static final int NONE = -1;

    private static final int ENTRANCE = 0;
    private static final int MOST_ROOMS = 12;
    private static final int MOST_CELLS = 100;
    private static final int MOST_DOORS = 16;
    private static final int MOST_WIDTH = 20;
    private static final int MOST_PERSONS = 60;
    private static final int MOST_AT_ONCE = 20;
    private static final int LAST_ARRIVAL = 1439;
    private static final int MOST_DRAWS = 8;
    private static final int LARGEST_DRAW = 1000000;
    private static final int LONGEST_RUN = 500;
    private static final int MOST_MINUTES = 2000;

    private final Rooms rooms = new Rooms();
    private final Doors doors = new Doors();
    private final Trails trails = new Trails();
    private final Persons persons;
    private int minute;
    private int cameIn;
    private int wentOut;

    public PersonSeeds(long seed) {
        persons = new Persons(seed);
    }

    public int room(int cells) throws IllegalArgumentException, IllegalStateException {
        checkBounds(cells, 1, MOST_CELLS);
        checkState(minute == 0 && rooms.count < MOST_ROOMS);
        int number = rooms.add(cells);
        persons.plan(rooms.count);
        return number;
    }

    public int door(int room, int other, int width) throws IllegalArgumentException, IllegalStateException {
        checkRoom(room);
        checkRoom(other);
        checkBounds(width, 1, MOST_WIDTH);
        checkDifferent(room, other);
        checkState(minute == 0 && doors.count < MOST_DOORS);
        return doors.add(room, other, width);
    }

    public int arrives(int minute, int n) throws IllegalArgumentException, IllegalStateException {
        checkBounds(minute, 0, LAST_ARRIVAL);
        checkBounds(n, 1, MOST_AT_ONCE);
        checkState(this.minute == 0 && rooms.count > 0 && persons.count + n <= MOST_PERSONS);
        persons.add(minute, n);
        persons.plan(rooms.count);
        return persons.count;
    }

    public int draw(int p, int k, int m) throws IllegalArgumentException {
        checkBounds(p, 0, MOST_PERSONS - 1);
        checkBounds(k, 0, MOST_DRAWS - 1);
        checkBounds(m, 1, LARGEST_DRAW);
        return persons.drawn(p, k, m);
    }

    public int run(int n) throws IllegalArgumentException, IllegalStateException {
        checkBounds(n, 1, LONGEST_RUN);
        checkState(rooms.count > 0 && minute + n <= MOST_MINUTES);
        for (int i = 0; i < n; i++) {
            passMinute();
        }
        return cameIn - wentOut;
    }

    public int person(int p, int what) throws IllegalArgumentException {
        checkPerson(p);
        checkBounds(what, 0, 5);
        switch (what) {
            case 0:
                return persons.comes[p];
            case 1:
                return persons.desk[p];
            case 2:
                return persons.eatsFrom[p];
            case 3:
                return persons.eatsUntil[p];
            case 4:
                return persons.eatsIn[p];
            default:
                return persons.leaves[p];
        }
    }

    public int at(int p) throws IllegalArgumentException {
        checkPerson(p);
        return trails.placeNow(p);
    }

    public int was(int p, int minute) throws IllegalArgumentException {
        checkPerson(p);
        checkOver(minute);
        return trails.placeBehind(p, minute);
    }

    public int waited(int p) throws IllegalArgumentException {
        checkPerson(p);
        return persons.waits[p];
    }

    public int in(int room, int what) throws IllegalArgumentException {
        checkRoom(room);
        checkBounds(what, 0, 2);
        switch (what) {
            case 0:
                return rooms.inside[room];
            case 1:
                return rooms.most[room];
            default:
                return rooms.fullEnds[room];
        }
    }

    public int inThen(int room, int minute) throws IllegalArgumentException {
        checkRoom(room);
        checkOver(minute);
        int there = 0;
        for (int p = 0; p < persons.count; p++) {
            if (trails.placeBehind(p, minute) == room) {
                there++;
            }
        }
        return there;
    }

    public int through(int door, boolean on) throws IllegalArgumentException {
        checkBounds(door, 0, doors.count - 1);
        return on ? doors.wentOn[door] : doors.wentBack[door];
    }

    public int distance(int room, int other) throws IllegalArgumentException {
        checkRoom(room);
        checkRoom(other);
        int steps = doors.stepsBetween(room, other);
        return steps < Doors.NO_WAY ? steps : NONE;
    }

    public int met(int p, int other) throws IllegalArgumentException {
        checkPerson(p);
        checkPerson(other);
        checkDifferent(p, other);
        int joined = trails.firstJoining(p, other);
        int wasJoined = trails.firstJoining(other, p);
        if (joined == NONE || wasJoined == NONE) {
            return Math.max(joined, wasJoined);
        }
        return Math.min(joined, wasJoined);
    }

    public int entered(boolean on) {
        return on ? cameIn : wentOut;
    }

    private void checkRoom(int room) {
        checkBounds(room, 0, rooms.count - 1);
    }

    private void checkPerson(int p) {
        checkBounds(p, 0, persons.count - 1);
    }

    private void checkOver(int asked) {
        checkBounds(asked, 0, minute - 1);
    }

    private static void checkBounds(int number, int least, int most) {
        if (number < least || number > most) {
            throw new IllegalArgumentException("out of bounds, or there is no such one");
        }
    }

    private static void checkDifferent(int one, int other) {
        if (one == other) {
            throw new IllegalArgumentException("both are one");
        }
    }

    private static void checkState(boolean allowed) {
        if (!allowed) {
            throw new IllegalStateException("not now, or no more of these");
        }
    }

    private void passMinute() {
        doors.beginMinute();
        for (int p = 0; p < persons.count && persons.comes[p] <= minute; p++) {
            tryStep(p);
        }
        rooms.endMinute();
        minute++;
    }

    private void tryStep(int p) {
        int here = trails.placeNow(p);
        int wanted = persons.wants(p, minute);
        if (here == wanted) {
            return;
        }
        if (here == NONE) {
            tryEntrance(p);
        } else if (wanted != NONE) {
            tryDoor(p, here, wanted);
        } else if (here != ENTRANCE) {
            tryDoor(p, here, ENTRANCE);
        } else {
            goOut(p);
        }
    }

    private void tryEntrance(int p) {
        if (!rooms.hasSpace(ENTRANCE)) {
            persons.waits[p]++;
            return;
        }
        rooms.inside[ENTRANCE]++;
        cameIn++;
        trails.add(p, minute, ENTRANCE);
    }

    private void goOut(int p) {
        rooms.inside[ENTRANCE]--;
        wentOut++;
        trails.add(p, minute, NONE);
    }

    private void tryDoor(int p, int here, int goal) {
        int door = doors.towards(here, goal);
        int next = door == NONE ? NONE : doors.behind(door, here);
        if (next == NONE) {
            return;
        }
        if (!rooms.hasSpace(next) || !doors.isFree(door)) {
            persons.waits[p]++;
            return;
        }
        doors.pass(door, here);
        rooms.inside[here]--;
        rooms.inside[next]++;
        trails.add(p, minute, next);
    }

    /** The rooms, and how full they are and were. */
    private static final class Rooms {
        private int count;
        private final int[] cells = new int[MOST_ROOMS];
        private final int[] inside = new int[MOST_ROOMS];
        private final int[] most = new int[MOST_ROOMS];
        private final int[] fullEnds = new int[MOST_ROOMS];

        private int add(int cellCount) {
            cells[count] = cellCount;
            count++;
            return count - 1;
        }

        private boolean hasSpace(int number) {
            return inside[number] < cells[number];
        }

        private void endMinute() {
            for (int i = 0; i < count; i++) {
                most[i] = Math.max(most[i], inside[i]);
                if (!hasSpace(i)) {
                    fullEnds[i]++;
                }
            }
        }
    }

    /** The doors, who went through them, and the distances that they make between rooms. */
    private static final class Doors {
        /** Above every distance, and small enough that sums of it stay ints. */
        private static final int NO_WAY = 1000;

        private int count;
        private final int[] near = new int[MOST_DOORS];
        private final int[] far = new int[MOST_DOORS];
        private final int[] width = new int[MOST_DOORS];
        private final int[] wentOn = new int[MOST_DOORS];
        private final int[] wentBack = new int[MOST_DOORS];
        private final int[] wentNow = new int[MOST_DOORS];
        private final int[] steps = new int[MOST_ROOMS * MOST_ROOMS];

        private Doors() {
            Arrays.fill(steps, NO_WAY);
            for (int i = 0; i < MOST_ROOMS; i++) {
                steps[i * MOST_ROOMS + i] = 0;
            }
        }

        private int add(int nearRoom, int farRoom, int doorWidth) {
            near[count] = nearRoom;
            far[count] = farRoom;
            width[count] = doorWidth;
            count++;
            shortenWays(nearRoom, farRoom);
            return count - 1;
        }

        /** A shortest way uses a new door once at most, so one look at every pair of rooms is enough. */
        private void shortenWays(int a, int b) {
            for (int i = 0; i < MOST_ROOMS; i++) {
                for (int j = 0; j < MOST_ROOMS; j++) {
                    int onWay = stepsBetween(i, a) + 1 + stepsBetween(b, j);
                    int backWay = stepsBetween(i, b) + 1 + stepsBetween(a, j);
                    int way = Math.min(onWay, backWay);
                    steps[i * MOST_ROOMS + j] = Math.min(stepsBetween(i, j), way);
                }
            }
        }

        private int stepsBetween(int from, int to) {
            return steps[from * MOST_ROOMS + to];
        }

        private int behind(int number, int here) {
            if (near[number] == here) {
                return far[number];
            }
            return far[number] == here ? near[number] : NONE;
        }

        private int towards(int here, int goal) {
            int left = stepsBetween(here, goal);
            for (int i = 0; i < count && left < NO_WAY; i++) {
                int next = behind(i, here);
                if (next != NONE && stepsBetween(next, goal) < left) {
                    return i;
                }
            }
            return NONE;
        }

        private void beginMinute() {
            Arrays.fill(wentNow, 0);
        }

        private boolean isFree(int number) {
            return wentNow[number] < width[number];
        }

        private void pass(int number, int here) {
            wentNow[number]++;
            if (near[number] == here) {
                wentOn[number]++;
            } else {
                wentBack[number]++;
            }
        }
    }

    /** The persons in the order in which they come, and what each will do. */
    private static final class Persons {
        private final long seed;
        private int count;
        private final int[] comes = new int[MOST_PERSONS];
        private final int[] desk = new int[MOST_PERSONS];
        private final int[] eatsFrom = new int[MOST_PERSONS];
        private final int[] eatsUntil = new int[MOST_PERSONS];
        private final int[] eatsIn = new int[MOST_PERSONS];
        private final int[] leaves = new int[MOST_PERSONS];
        private final int[] waits = new int[MOST_PERSONS];

        private Persons(long givenSeed) {
            seed = givenSeed;
        }

        private void add(int minute, int n) {
            int place = count;
            while (place > 0 && comes[place - 1] > minute) {
                place--;
                comes[place + n] = comes[place];
            }
            for (int i = 0; i < n; i++) {
                comes[place + i] = minute;
            }
            count += n;
        }

        /** Made anew with every room and arrival, as both change what persons will do. */
        private void plan(int roomCount) {
            for (int p = 0; p < count; p++) {
                desk[p] = drawn(p, 0, roomCount);
                eatsFrom[p] = comes[p] + 30 + drawn(p, 1, 90);
                eatsUntil[p] = eatsFrom[p] + 20 + drawn(p, 2, 20);
                eatsIn[p] = drawn(p, 3, roomCount);
                leaves[p] = comes[p] + 200 + drawn(p, 4, 200);
            }
        }

        private int drawn(int p, int k, int m) {
            if (m < 1) {
                return 0;
            }
            long z = seed + 0x9E3779B97F4A7C15L * (8 * p + k + 1);
            z = (z ^ z >>> 30) * 0xBF58476D1CE4E5B9L;
            z = (z ^ z >>> 27) * 0x94D049BB133111EBL;
            z = z ^ z >>> 31;
            return (int) ((z >>> 1) % m);
        }

        private int wants(int p, int minute) {
            if (minute >= leaves[p]) {
                return NONE;
            }
            return minute >= eatsFrom[p] && minute < eatsUntil[p] ? eatsIn[p] : desk[p];
        }
    }

    /** Each person's moves: the minute, and the place it was at behind it. Before the first it was outside. */
    private static final class Trails {
        /**
         * In, out, and between them four walks (to the desk, to eat, back, to the entrance) of at
         * most 11 doors each make 46; rows of all minutes would be forty times as long.
         */
        private static final int MOST_MOVES = 46;

        private final int[] moves = new int[MOST_PERSONS];
        private final int[] minutes = new int[MOST_PERSONS * MOST_MOVES];
        private final int[] places = new int[MOST_PERSONS * MOST_MOVES];

        private void add(int p, int minute, int place) {
            if (moves[p] >= MOST_MOVES) {
                return;
            }
            int row = p * MOST_MOVES + moves[p];
            minutes[row] = minute;
            places[row] = place;
            moves[p]++;
        }

        private int placeNow(int p) {
            return moves[p] == 0 ? NONE : places[p * MOST_MOVES + moves[p] - 1];
        }

        private int placeBehind(int p, int minute) {
            for (int i = moves[p] - 1; i >= 0; i--) {
                if (minutes[p * MOST_MOVES + i] <= minute) {
                    return places[p * MOST_MOVES + i];
                }
            }
            return NONE;
        }

        /** The first minute in which p went into a room where the other one was behind it. */
        private int firstJoining(int p, int other) {
            for (int i = 0; i < moves[p]; i++) {
                int minute = minutes[p * MOST_MOVES + i];
                int place = places[p * MOST_MOVES + i];
                if (place != NONE && placeBehind(other, minute) == place) {
                    return minute;
                }
            }
            return NONE;
        }
    }
}
