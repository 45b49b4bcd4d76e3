import java.util.ArrayList;
import java.util.List;
import java.util.function.IntSupplier;
import java.util.function.ToIntFunction;

/**
 * Of every number that a call takes: the last one that is allowed and the first that is refused, at
 * both ends; which of several exceptions is thrown; and that a refused call changes nothing.
 */
public final class PersonSeedsBounds extends DueAnswers {
    private static final int LEAST = Integer.MIN_VALUE;
    private static final int MOST = Integer.MAX_VALUE;
    private static final long SEED = 20261116L;

    public static void main(String[] args) {
        refusedCallsChangeNothing();
        newObjectIsEmpty();
        roomsAndCells();
        roomsAfterRefusedOnes();
        doorsAndWidths();
        doorsBetweenEveryTwoRooms();
        arrivalMinutesAndNumbers();
        sixtyPersonsWithThese();
        arrivalNeedsARoom();
        setUpEndsWithTheFirstMinute();
        drawNumbers();
        drawNeedsNoPersonAndNoRoom();
        runLengths();
        minutesInAll();
        runNeedsARoom();
        personNumbers();
        personBeforeItComes();
        atAndWaitedNumbers();
        wasMinutes();
        inNumbers();
        inThenMinutes();
        throughNumbers();
        distanceNumbers();
        metNumbers();
        enteredBeforeAnything();
        fiveHundredAndTwelveCalls();
        fiveHundredAndElevenRefusedCalls();
        laterCallsStillEnd();
        end();
    }

    // ---- 'Of several exceptions the one named first is thrown; a call that throws changes nothing.'

    /** A call that is refused, and how. */
    private record Refusal(String call, ToIntFunction<PersonSeeds> ask, String want) {
    }

    /** A way to come to a state, with the counts that are there then. */
    private enum State {
        NEW(0, 0, 0, 0),
        ONE_ROOM(1, 0, 0, 0),
        TOLD(4, 4, 7, 0),
        FULL(12, 16, 60, 0),
        RUNNING(4, 4, 7, 47),
        FULL_RUNNING(12, 16, 60, 47),
        ENDED(4, 4, 7, 2000);

        final int rooms;
        final int doors;
        final int persons;
        final int over;

        State(int rooms, int doors, int persons, int over) {
            this.rooms = rooms;
            this.doors = doors;
            this.persons = persons;
            this.over = over;
        }

        PersonSeeds made() {
            PersonSeeds x = new PersonSeeds(SEED);
            for (int i = 0; i < rooms; i++) {
                x.room(2 + i % 3);
            }
            for (int i = 0; i < doors; i++) {
                x.door(i % rooms, (i + 1) % rooms, 1 + i % 2);
            }
            for (int left = persons; left > 0; left -= 20) {
                x.arrives(left % 7, Math.min(left, 20));
            }
            runTo(x, 0, over);
            return x;
        }
    }

    private static void refusedCallsChangeNothing() {
        for (State state : State.values()) {
            List<Refusal> refusals = new ArrayList<>();
            wrongSetUp(refusals, state);
            wrongPlaces(refusals, state);
            wrongPersons(refusals, state);
            wrongMinutes(refusals, state);
            wrongTimes(refusals, state);
            List<String> before = toldOf(state, x -> 0);
            for (Refusal refusal : refusals) {
                due(state + ": " + refusal.call, () -> refusal.ask.applyAsInt(state.made()), refusal.want);
                if (!toldOf(state, refusal.ask).equals(before)) {
                    tellWrong(state + ": " + refusal.call + " is refused and changes something");
                }
            }
        }
    }

    /** The first numbers below and above the bounds, and the farthest ones. */
    private static int[] beside(int least, int most) {
        return new int[] {LEAST, least - 1, most + 1, MOST};
    }

    private static void add(List<Refusal> refusals, String call, ToIntFunction<PersonSeeds> ask, String want) {
        refusals.add(new Refusal(call, ask, want));
    }

    /** Illegal arguments of the calls that the state may refuse too: the argument is named first. */
    private static void wrongSetUp(List<Refusal> all, State s) {
        for (int n : beside(1, 100)) {
            add(all, "room(" + n + ")", x -> x.room(n), ARGUMENT);
        }
        for (int n : beside(0, s.rooms - 1)) {
            add(all, "door(" + n + ", 1, 1)", x -> x.door(n, 1, 1), ARGUMENT);
            add(all, "door(1, " + n + ", 1)", x -> x.door(1, n, 1), ARGUMENT);
            add(all, "door(" + n + ", " + n + ", 1)", x -> x.door(n, n, 1), ARGUMENT);
        }
        for (int n : beside(1, 20)) {
            add(all, "door(0, 1, " + n + ")", x -> x.door(0, 1, n), ARGUMENT);
            add(all, "arrives(0, " + n + ")", x -> x.arrives(0, n), ARGUMENT);
        }
        for (int i = 0; i < s.rooms; i++) {
            int room = i;
            add(all, "door(" + room + ", " + room + ", 1)", x -> x.door(room, room, 1), ARGUMENT);
        }
        for (int n : beside(0, 1439)) {
            add(all, "arrives(" + n + ", 1)", x -> x.arrives(n, 1), ARGUMENT);
        }
        for (int n : beside(1, 500)) {
            add(all, "run(" + n + ")", x -> x.run(n), ARGUMENT);
        }
    }

    private static void wrongPlaces(List<Refusal> all, State s) {
        for (int n : beside(0, s.rooms - 1)) {
            add(all, "in(" + n + ", 0)", x -> x.in(n, 0), ARGUMENT);
            add(all, "in(" + n + ", 1)", x -> x.in(n, 1), ARGUMENT);
            add(all, "in(" + n + ", 2)", x -> x.in(n, 2), ARGUMENT);
            add(all, "inThen(" + n + ", 0)", x -> x.inThen(n, 0), ARGUMENT);
            add(all, "distance(" + n + ", 0)", x -> x.distance(n, 0), ARGUMENT);
            add(all, "distance(0, " + n + ")", x -> x.distance(0, n), ARGUMENT);
            add(all, "distance(" + n + ", " + n + ")", x -> x.distance(n, n), ARGUMENT);
        }
        for (int n : beside(0, 2)) {
            add(all, "in(0, " + n + ")", x -> x.in(0, n), ARGUMENT);
        }
        for (int n : beside(0, s.doors - 1)) {
            add(all, "through(" + n + ", true)", x -> x.through(n, true), ARGUMENT);
            add(all, "through(" + n + ", false)", x -> x.through(n, false), ARGUMENT);
        }
    }

    private static void wrongPersons(List<Refusal> all, State s) {
        for (int n : beside(0, s.persons - 1)) {
            add(all, "person(" + n + ", 0)", x -> x.person(n, 0), ARGUMENT);
            add(all, "person(" + n + ", 5)", x -> x.person(n, 5), ARGUMENT);
            add(all, "at(" + n + ")", x -> x.at(n), ARGUMENT);
            add(all, "was(" + n + ", 0)", x -> x.was(n, 0), ARGUMENT);
            add(all, "waited(" + n + ")", x -> x.waited(n), ARGUMENT);
            add(all, "met(" + n + ", 0)", x -> x.met(n, 0), ARGUMENT);
            add(all, "met(0, " + n + ")", x -> x.met(0, n), ARGUMENT);
            add(all, "met(" + n + ", " + n + ")", x -> x.met(n, n), ARGUMENT);
        }
        for (int i = 0; i < s.persons; i++) {
            int p = i;
            add(all, "met(" + p + ", " + p + ")", x -> x.met(p, p), ARGUMENT);
        }
        for (int n : beside(0, 5)) {
            add(all, "person(0, " + n + ")", x -> x.person(0, n), ARGUMENT);
        }
        for (int n : beside(0, 59)) {
            add(all, "draw(" + n + ", 0, 1)", x -> x.draw(n, 0, 1), ARGUMENT);
        }
        for (int n : beside(0, 7)) {
            add(all, "draw(0, " + n + ", 1)", x -> x.draw(0, n, 1), ARGUMENT);
        }
        for (int n : beside(1, 1000000)) {
            add(all, "draw(0, 0, " + n + ")", x -> x.draw(0, 0, n), ARGUMENT);
        }
    }

    private static void wrongMinutes(List<Refusal> all, State s) {
        for (int n : beside(0, s.over - 1)) {
            add(all, "was(0, " + n + ")", x -> x.was(0, n), ARGUMENT);
            add(all, "inThen(0, " + n + ")", x -> x.inThen(0, n), ARGUMENT);
        }
    }

    /** Calls with arguments that are fine, at a time that is not. */
    private static void wrongTimes(List<Refusal> all, State s) {
        if (s.over > 0 || s.rooms == 12) {
            add(all, "room(1)", x -> x.room(1), STATE);
            add(all, "room(100)", x -> x.room(100), STATE);
        }
        if (s.over > 0 || s.doors == 16) {
            add(all, "door(0, 2, 1)", x -> x.door(0, 2, 1), STATE);
            add(all, "door(" + (s.rooms - 1) + ", 0, 20)", x -> x.door(s.rooms - 1, 0, 20), STATE);
        }
        if (s.over > 0 || s.persons == 60 || s.rooms == 0) {
            add(all, "arrives(0, 1)", x -> x.arrives(0, 1), STATE);
            add(all, "arrives(1439, 1)", x -> x.arrives(1439, 1), STATE);
            add(all, "arrives(0, 20)", x -> x.arrives(0, 20), STATE);
        }
        if (s.over == 2000 || s.rooms == 0) {
            add(all, "run(1)", x -> x.run(1), STATE);
            add(all, "run(500)", x -> x.run(500), STATE);
        }
    }

    /** All that an object tells behind a call, in four parts so that none takes over 512 calls. */
    private static List<String> toldOf(State state, ToIntFunction<PersonSeeds> call) {
        List<String> told = new ArrayList<>();
        toldOfPlaces(madeAndAsked(state, call), told);
        toldOfPersons(madeAndAsked(state, call), told);
        toldOfMinutes(madeAndAsked(state, call), told);
        toldOfWhatComes(madeAndAsked(state, call), told);
        return told;
    }

    private static PersonSeeds madeAndAsked(State state, ToIntFunction<PersonSeeds> call) {
        PersonSeeds x = state.made();
        answer(() -> call.applyAsInt(x));
        return x;
    }

    private static void toldOfPlaces(PersonSeeds x, List<String> told) {
        for (int i = 0; i < 12; i++) {
            int room = i;
            for (int j = 0; j < 3; j++) {
                int what = j;
                told.add(answer(() -> x.in(room, what)));
            }
            for (int j = 0; j < 12; j++) {
                int other = j;
                told.add(answer(() -> x.distance(room, other)));
            }
        }
        for (int i = 0; i < 16; i++) {
            int door = i;
            told.add(answer(() -> x.through(door, true)));
            told.add(answer(() -> x.through(door, false)));
        }
        for (int i = 0; i < 60; i++) {
            int p = i;
            told.add(answer(() -> x.waited(p)));
        }
        told.add(answer(() -> x.entered(true)));
        told.add(answer(() -> x.entered(false)));
    }

    private static void toldOfPersons(PersonSeeds x, List<String> told) {
        for (int i = 0; i < 60; i++) {
            int p = i;
            for (int j = 0; j < 6; j++) {
                int what = j;
                told.add(answer(() -> x.person(p, what)));
            }
            told.add(answer(() -> x.at(p)));
        }
    }

    private static void toldOfMinutes(PersonSeeds x, List<String> told) {
        int[] minutes = {0, 5, 20, 46, 47};
        for (int minute : minutes) {
            for (int i = 0; i < 60; i++) {
                int p = i;
                told.add(answer(() -> x.was(p, minute)));
            }
            for (int i = 0; i < 12; i++) {
                int room = i;
                told.add(answer(() -> x.inThen(room, minute)));
            }
        }
        for (int i = 0; i < 60; i++) {
            int p = i;
            told.add(answer(() -> x.met(p, (p + 1) % 60)));
        }
    }

    private static void toldOfWhatComes(PersonSeeds x, List<String> told) {
        told.add(answer(() -> x.draw(0, 0, 1000000)));
        told.add(answer(() -> x.room(3)));
        told.add(answer(() -> x.room(3)));
        told.add(answer(() -> x.door(1, 0, 2)));
        told.add(answer(() -> x.arrives(2, 3)));
        told.add(answer(() -> x.arrives(1, 1)));
        for (int n : new int[] {1, 2, 30, 90}) {
            told.add(answer(() -> x.run(n)));
            for (int i = 0; i < 12; i++) {
                int p = i;
                told.add(answer(() -> x.at(p)));
                told.add(answer(() -> x.waited(p)));
                told.add(answer(() -> x.in(p, 0)));
                told.add(answer(() -> x.in(p, 1)));
                told.add(answer(() -> x.in(p, 2)));
                told.add(answer(() -> x.through(p, true)));
                told.add(answer(() -> x.through(p, false)));
            }
            told.add(answer(() -> x.entered(true)));
            told.add(answer(() -> x.entered(false)));
        }
    }

    // ---- promise 1: 'No rooms; minute 0 comes.'

    private static void newObjectIsEmpty() {
        for (long seed : new long[] {Long.MIN_VALUE, -1, 0, 1, Long.MAX_VALUE}) {
            PersonSeeds x = new PersonSeeds(seed);
            due("1 no room", () -> x.in(0, 0), ARGUMENT);
            due("1 no door", () -> x.through(0, true), ARGUMENT);
            due("1 no person", () -> x.at(0), ARGUMENT);
            due("1 the first room is 0", () -> x.room(1), 0);
            due("1 minute 0 is not over", () -> x.inThen(0, 0), ARGUMENT);
            due("1 minute 0 comes", () -> x.run(1), 0);
            due("1 minute 0 is over", () -> x.inThen(0, 0), 0);
            due("1 minute 1 comes", () -> x.inThen(0, 1), ARGUMENT);
        }
    }

    // ---- promise 2, and 'ROOMS are 0 .. 11, as they come, each with CELLS (1 .. 100)'

    private static void roomsAndCells() {
        PersonSeeds x = new PersonSeeds(SEED);
        due("2 room(1)", () -> x.room(1), 0);
        due("2 room(100)", () -> x.room(100), 1);
        due("2 room(0)", () -> x.room(0), ARGUMENT);
        due("2 room(101)", () -> x.room(101), ARGUMENT);
        for (int i = 2; i < 12; i++) {
            int cells = i % 2 == 0 ? 100 : 1;
            due("2 the room " + i, () -> x.room(cells), i);
        }
        due("2 there are 12", () -> x.room(1), STATE);
        due("2 there are 12", () -> x.room(100), STATE);
        due("2 there are 12, and 0 cells", () -> x.room(0), ARGUMENT);
        due("2 there are 12, and 101 cells", () -> x.room(101), ARGUMENT);
        due("2 a door still comes", () -> x.door(11, 0, 1), 0);
        due("2 an arrival still comes", () -> x.arrives(0, 1), 1);
    }

    /** Refused rooms take no number, and doors and arrivals do not end the telling of rooms. */
    private static void roomsAfterRefusedOnes() {
        PersonSeeds x = new PersonSeeds(SEED);
        answer(() -> x.room(0));
        answer(() -> x.room(101));
        due("2 the first behind refused ones", () -> x.room(5), 0);
        answer(() -> x.room(-5));
        due("2 the second behind a refused one", () -> x.room(5), 1);
        x.door(0, 1, 1);
        due("2 a room behind a door", () -> x.room(5), 2);
        x.arrives(0, 1);
        due("2 a room behind an arrival", () -> x.room(5), 3);
        answer(() -> x.run(0));
        due("2 a room behind a refused run", () -> x.room(5), 4);
        due("2 no room 5", () -> x.in(5, 0), ARGUMENT);
    }

    // ---- promise 3, and 'DOORS are 0 .. 15, as they come, between two rooms, with a WIDTH (1 .. 20)'

    private static void doorsAndWidths() {
        PersonSeeds x = house(SEED, 1, 1, 1);
        due("3 width 1", () -> x.door(0, 1, 1), 0);
        due("3 width 20", () -> x.door(0, 1, 20), 1);
        due("3 width 0", () -> x.door(0, 1, 0), ARGUMENT);
        due("3 width 21", () -> x.door(0, 1, 21), ARGUMENT);
        due("3 the same two rooms the other way", () -> x.door(1, 0, 1), 2);
        for (int i = 3; i < 16; i++) {
            due("3 the door " + i, () -> x.door(1, 0, 20), i);
        }
        due("3 there are 16", () -> x.door(0, 2, 1), STATE);
        due("3 there are 16, and width 0", () -> x.door(0, 2, 0), ARGUMENT);
        due("3 there are 16, and width 21", () -> x.door(0, 2, 21), ARGUMENT);
        due("3 there are 16, and both rooms are one", () -> x.door(2, 2, 1), ARGUMENT);
        due("3 there are 16, and no room 3", () -> x.door(0, 3, 1), ARGUMENT);
        due("3 there are 16, and no room -1", () -> x.door(-1, 0, 1), ARGUMENT);
        due("3 the 17th made no way", () -> x.distance(0, 2), NONE);
        due("3 a room still comes", () -> x.room(1), 3);
        due("3 an arrival still comes", () -> x.arrives(0, 1), 1);
    }

    private static void doorsBetweenEveryTwoRooms() {
        for (int i = 0; i < 12; i++) {
            for (int j = 0; j < 12; j++) {
                int room = i;
                int other = j;
                PersonSeeds x = house(SEED, 1, 1, 1, 1, 1, 1, 1, 1, 1, 1, 1, 1);
                String call = "3 door(" + room + ", " + other + ", 1)";
                if (room == other) {
                    due(call, () -> x.door(room, other, 1), ARGUMENT);
                } else {
                    due(call, () -> x.door(room, other, 1), 0);
                    due(call + " makes a way", () -> x.distance(other, room), 1);
                }
            }
        }
        PersonSeeds y = house(SEED, 1, 1);
        due("3 no room 2 yet", () -> y.door(0, 2, 1), ARGUMENT);
        y.room(1);
        due("3 room 2 is there", () -> y.door(0, 2, 1), 0);
    }

    // ---- promise 4: 'An ARRIVAL (minute 0 .. 1439)', 'a number of persons (1 .. 20)'

    private static void arrivalMinutesAndNumbers() {
        PersonSeeds x = house(SEED, 1);
        due("4 minute 0", () -> x.arrives(0, 1), 1);
        due("4 minute 1439", () -> x.arrives(1439, 1), 2);
        due("4 minute -1", () -> x.arrives(-1, 1), ARGUMENT);
        due("4 minute 1440", () -> x.arrives(1440, 1), ARGUMENT);
        due("4 nobody", () -> x.arrives(0, 0), ARGUMENT);
        due("4 21 persons", () -> x.arrives(0, 21), ARGUMENT);
        due("4 20 persons", () -> x.arrives(1439, 20), 22);
        due("4 the first comes", () -> x.person(0, 0), 0);
        due("4 the second comes", () -> x.person(1, 0), 1439);
        due("4 the last comes", () -> x.person(21, 0), 1439);
        due("4 there is none behind it", () -> x.person(22, 0), ARGUMENT);
    }

    /** 'illegal state: .. 60 persons with these': the sixtieth may come, the sixty-first may not. */
    private static void sixtyPersonsWithThese() {
        for (int n = 1; n <= 20; n++) {
            int last = n;
            PersonSeeds x = house(SEED, 1);
            x.arrives(3, 20);
            x.arrives(2, 20);
            if (n < 20) {
                x.arrives(9, 20 - n);
                due("4 " + (n + 1) + " where " + n + " fit", () -> x.arrives(0, last + 1), STATE);
                due("4 20 where " + n + " fit", () -> x.arrives(1439, 20), STATE);
                due("4 nobody came of those", () -> x.at(60 - last), ARGUMENT);
            }
            due("4 " + n + " where " + n + " fit", () -> x.arrives(0, last), 60);
            due("4 there are 60", () -> x.arrives(0, 1), STATE);
            due("4 there are 60, and minute -1", () -> x.arrives(-1, 1), ARGUMENT);
            due("4 there are 60, and minute 1440", () -> x.arrives(1440, 1), ARGUMENT);
            due("4 there are 60, and nobody", () -> x.arrives(0, 0), ARGUMENT);
            due("4 there are 60, and 21", () -> x.arrives(0, 21), ARGUMENT);
            due("4 person 59 is there", () -> x.at(59), NONE);
            due("4 person 60 is not", () -> x.at(60), ARGUMENT);
            due("4 a room still comes", () -> x.room(1), 1);
            due("4 a door still comes", () -> x.door(0, 1, 1), 0);
        }
    }

    private static void arrivalNeedsARoom() {
        PersonSeeds x = new PersonSeeds(SEED);
        due("4 no room", () -> x.arrives(0, 1), STATE);
        due("4 no room, and minute -1", () -> x.arrives(-1, 1), ARGUMENT);
        due("4 no room, and minute 1440", () -> x.arrives(1440, 1), ARGUMENT);
        due("4 no room, and nobody", () -> x.arrives(0, 0), ARGUMENT);
        due("4 no room, and 21", () -> x.arrives(0, 21), ARGUMENT);
        x.room(1);
        due("4 one room is enough", () -> x.arrives(0, 1), 1);
    }

    /** 'illegal state (here, and for doors and arrivals): a minute is over' */
    private static void setUpEndsWithTheFirstMinute() {
        PersonSeeds x = house(SEED, 1, 1);
        answer(() -> x.run(501));
        due("2 no minute is over", () -> x.room(1), 2);
        due("3 no minute is over", () -> x.door(0, 1, 1), 0);
        due("4 no minute is over", () -> x.arrives(0, 1), 1);
        x.run(1);
        due("2 a minute is over", () -> x.room(1), STATE);
        due("3 a minute is over", () -> x.door(0, 1, 1), STATE);
        due("4 a minute is over", () -> x.arrives(0, 1), STATE);
        due("4 a minute is over, those of a later one", () -> x.arrives(1439, 1), STATE);
        due("2 a minute is over, and 0 cells", () -> x.room(0), ARGUMENT);
        due("3 a minute is over, and both are one", () -> x.door(0, 0, 1), ARGUMENT);
        due("4 a minute is over, and 21", () -> x.arrives(0, 21), ARGUMENT);
        x.run(500);
        due("2 minutes are over", () -> x.room(1), STATE);
        due("3 minutes are over", () -> x.door(0, 1, 1), STATE);
        due("4 minutes are over", () -> x.arrives(1439, 1), STATE);
    }

    // ---- promise 5: 'A DRAW (p 0 .. 59, k 0 .. 7, m 1 .. 1000000)'

    private static void drawNumbers() {
        PersonSeeds x = new PersonSeeds(SEED);
        for (int p : new int[] {0, 59}) {
            for (int k : new int[] {0, 7}) {
                for (int m : new int[] {1, 2, 999999, 1000000}) {
                    due("5 draw(" + p + ", " + k + ", " + m + ")", () -> x.draw(p, k, m), draw(SEED, p, k, m));
                }
                due("5 m 0", () -> x.draw(p, k, 0), ARGUMENT);
                due("5 m 1000001", () -> x.draw(p, k, 1000001), ARGUMENT);
            }
            due("5 k -1", () -> x.draw(p, -1, 5), ARGUMENT);
            due("5 k 8", () -> x.draw(p, 8, 5), ARGUMENT);
        }
        due("5 p -1", () -> x.draw(-1, 0, 5), ARGUMENT);
        due("5 p 60", () -> x.draw(60, 0, 5), ARGUMENT);
        due("5 p -1 and k 8: not the draw of p 0, k 0", () -> x.draw(-1, 8, 5), ARGUMENT);
    }

    /** The bounds of p are 0 .. 59 and no others, however many persons there are. */
    private static void drawNeedsNoPersonAndNoRoom() {
        PersonSeeds x = new PersonSeeds(SEED);
        int want = draw(SEED, 59, 7, 1000000);
        due("5 without a room", () -> x.draw(59, 7, 1000000), want);
        x.room(1);
        due("5 without a person", () -> x.draw(59, 7, 1000000), want);
        x.arrives(0, 3);
        due("5 with three persons", () -> x.draw(59, 7, 1000000), want);
        x.run(500);
        due("5 behind minutes", () -> x.draw(59, 7, 1000000), want);
    }

    // ---- promise 6: 'n minutes (1 .. 500)', 'more than 2000 minutes'

    private static void runLengths() {
        PersonSeeds x = house(SEED, 1);
        due("6 run(0)", () -> x.run(0), ARGUMENT);
        due("6 run(501)", () -> x.run(501), ARGUMENT);
        due("6 no minute is over", () -> x.inThen(0, 0), ARGUMENT);
        due("6 run(1)", () -> x.run(1), 0);
        due("6 minute 0 is over", () -> x.inThen(0, 0), 0);
        due("6 minute 1 is not", () -> x.inThen(0, 1), ARGUMENT);
        due("6 run(500)", () -> x.run(500), 0);
        due("6 minute 500 is over", () -> x.inThen(0, 500), 0);
        due("6 minute 501 is not", () -> x.inThen(0, 501), ARGUMENT);
    }

    private static void minutesInAll() {
        for (int over : new int[] {1500, 1501, 1998, 1999, 2000}) {
            PersonSeeds x = house(SEED, 1);
            runTo(x, 0, over);
            int left = 2000 - over;
            if (left < 500) {
                due("6 one minute more than " + left, () -> x.run(left + 1), STATE);
                due("6 run(500) behind " + over, () -> x.run(500), STATE);
                due("6 run(0) behind " + over, () -> x.run(0), ARGUMENT);
                due("6 run(501) behind " + over, () -> x.run(501), ARGUMENT);
                due("6 still " + over, () -> x.inThen(0, over), ARGUMENT);
            }
            if (left > 0) {
                due("6 run(" + left + ") behind " + over, () -> x.run(left), 0);
            }
            due("6 minute 1999 is over", () -> x.inThen(0, 1999), 0);
            due("6 minute 2000 is not", () -> x.inThen(0, 2000), ARGUMENT);
            due("6 run(1) behind 2000", () -> x.run(1), STATE);
        }
    }

    private static void runNeedsARoom() {
        PersonSeeds x = new PersonSeeds(SEED);
        due("6 no room", () -> x.run(1), STATE);
        due("6 no room", () -> x.run(500), STATE);
        due("6 no room, and 0 minutes", () -> x.run(0), ARGUMENT);
        due("6 no room, and 501 minutes", () -> x.run(501), ARGUMENT);
        x.room(1);
        due("6 one room is enough", () -> x.run(1), 0);
    }

    // ---- promise 7

    private static PersonSeeds sixty() {
        PersonSeeds x = house(SEED, 100, 100, 100, 100, 100, 100, 100, 100, 100, 100, 100, 100);
        for (int i = 0; i < 15; i++) {
            x.door(i % 12, (i + 1) % 12, 20);
        }
        x.door(11, 0, 20);
        x.arrives(0, 20);
        x.arrives(0, 20);
        x.arrives(0, 20);
        return x;
    }

    private static void duePlan(PersonSeeds x, String when, int p, int comes, int rooms) {
        String who = "7 " + when + " person(" + p + ", ";
        due(who + "0)", () -> x.person(p, 0), comes);
        due(who + "1)", () -> x.person(p, 1), desk(SEED, p, rooms));
        due(who + "2)", () -> x.person(p, 2), eatsFrom(SEED, p, comes));
        due(who + "3)", () -> x.person(p, 3), eatsUntil(SEED, p, comes));
        due(who + "4)", () -> x.person(p, 4), eatsIn(SEED, p, rooms));
        due(who + "5)", () -> x.person(p, 5), leaves(SEED, p, comes));
    }

    private static void personNumbers() {
        PersonSeeds x = sixty();
        for (int p = 0; p < 60; p++) {
            duePlan(x, "of sixty", p, 0, 12);
        }
        due("7 what -1", () -> x.person(59, -1), ARGUMENT);
        due("7 what 6", () -> x.person(59, 6), ARGUMENT);
        due("7 person -1", () -> x.person(-1, 0), ARGUMENT);
        due("7 person 60", () -> x.person(60, 0), ARGUMENT);
        PersonSeeds y = house(SEED, 1);
        due("7 nobody", () -> y.person(0, 0), ARGUMENT);
        y.arrives(4, 1);
        due("7 the only one", () -> y.person(0, 0), 4);
        due("7 nobody behind it", () -> y.person(1, 0), ARGUMENT);
    }

    /** 'one that has not come yet: as far as it is known': with the rooms and arrivals that are told. */
    private static void personBeforeItComes() {
        PersonSeeds x = house(SEED, 9);
        x.arrives(1439, 1);
        duePlan(x, "with one room", 0, 1439, 1);
        for (int rooms = 2; rooms <= 12; rooms++) {
            x.room(9);
            duePlan(x, "with " + rooms + " rooms", 0, 1439, rooms);
        }
        x.arrives(1439, 1);
        duePlan(x, "with another of its minute", 0, 1439, 12);
        duePlan(x, "of its minute", 1, 1439, 12);
        x.arrives(1438, 1);
        duePlan(x, "told last and come first", 0, 1438, 12);
        duePlan(x, "now the second", 1, 1439, 12);
        duePlan(x, "now the third", 2, 1439, 12);
        x.door(0, 1, 1);
        duePlan(x, "behind a door", 0, 1438, 12);
        runTo(x, 0, 1438);
        duePlan(x, "a minute before it comes", 0, 1438, 12);
        x.run(1);
        duePlan(x, "in the minute in which it came", 0, 1438, 12);
        duePlan(x, "a minute before it comes", 1, 1439, 12);
        runTo(x, 1439, 2000);
        duePlan(x, "behind all minutes", 2, 1439, 12);
    }

    // ---- promises 8 to 10

    private static void atAndWaitedNumbers() {
        PersonSeeds x = sixty();
        for (int p : new int[] {0, 59}) {
            due("8 at(" + p + ") before it comes", () -> x.at(p), NONE);
            due("10 waited(" + p + ") before it comes", () -> x.waited(p), 0);
        }
        x.run(1);
        for (int p : new int[] {0, 59}) {
            due("8 at(" + p + ")", () -> x.at(p), 0);
            due("10 waited(" + p + ")", () -> x.waited(p), 0);
        }
        for (int p : new int[] {-1, 60}) {
            due("8 at(" + p + ")", () -> x.at(p), ARGUMENT);
            due("10 waited(" + p + ")", () -> x.waited(p), ARGUMENT);
        }
    }

    /** 'behind a minute (below the one that comes)' */
    private static void wasMinutes() {
        PersonSeeds x = sixty();
        due("9 no minute is over", () -> x.was(0, 0), ARGUMENT);
        due("9 no minute is over", () -> x.was(59, -1), ARGUMENT);
        x.run(1);
        due("9 minute 0", () -> x.was(0, 0), 0);
        due("9 minute 0", () -> x.was(59, 0), 0);
        due("9 minute 1 comes", () -> x.was(0, 1), ARGUMENT);
        runTo(x, 1, 2000);
        due("9 minute 0, long ago", () -> x.was(59, 0), 0);
        due("9 minute 1999", () -> x.was(59, 1999), NONE);
        due("9 minute 2000", () -> x.was(59, 2000), ARGUMENT);
        due("9 minute -1", () -> x.was(59, -1), ARGUMENT);
        due("9 person 60", () -> x.was(60, 0), ARGUMENT);
        due("9 person -1", () -> x.was(-1, 0), ARGUMENT);
    }

    // ---- promises 11 to 14

    private static void inNumbers() {
        PersonSeeds x = sixty();
        for (int what = 0; what < 3; what++) {
            int asked = what;
            due("11 in(0, " + what + ") of nobody", () -> x.in(0, asked), 0);
            due("11 in(11, " + what + ") of nobody", () -> x.in(11, asked), 0);
        }
        x.run(1);
        due("11 in(0, 0)", () -> x.in(0, 0), 60);
        due("11 in(0, 1)", () -> x.in(0, 1), 60);
        due("11 in(0, 2)", () -> x.in(0, 2), 0);
        due("11 in(11, 0)", () -> x.in(11, 0), 0);
        for (int room : new int[] {0, 11}) {
            due("11 what -1", () -> x.in(room, -1), ARGUMENT);
            due("11 what 3", () -> x.in(room, 3), ARGUMENT);
        }
        for (int what = 0; what < 3; what++) {
            int asked = what;
            due("11 room -1", () -> x.in(-1, asked), ARGUMENT);
            due("11 room 12", () -> x.in(12, asked), ARGUMENT);
        }
    }

    private static void inThenMinutes() {
        PersonSeeds x = sixty();
        due("12 no minute is over", () -> x.inThen(0, 0), ARGUMENT);
        due("12 no minute is over", () -> x.inThen(11, -1), ARGUMENT);
        x.run(1);
        due("12 minute 0", () -> x.inThen(0, 0), 60);
        due("12 minute 0", () -> x.inThen(11, 0), 0);
        due("12 minute 1 comes", () -> x.inThen(0, 1), ARGUMENT);
        runTo(x, 1, 2000);
        due("12 minute 0, long ago", () -> x.inThen(0, 0), 60);
        due("12 minute 1999", () -> x.inThen(0, 1999), 0);
        due("12 minute 2000", () -> x.inThen(11, 2000), ARGUMENT);
        due("12 minute -1", () -> x.inThen(11, -1), ARGUMENT);
        due("12 room 12", () -> x.inThen(12, 0), ARGUMENT);
        due("12 room -1", () -> x.inThen(-1, 0), ARGUMENT);
    }

    private static void throughNumbers() {
        PersonSeeds x = house(SEED, 1, 1);
        due("13 no door", () -> x.through(0, true), ARGUMENT);
        due("13 no door", () -> x.through(0, false), ARGUMENT);
        x.door(0, 1, 1);
        due("13 the only door", () -> x.through(0, true), 0);
        due("13 the only door", () -> x.through(0, false), 0);
        due("13 no door behind it", () -> x.through(1, true), ARGUMENT);
        PersonSeeds y = sixty();
        for (boolean on : new boolean[] {true, false}) {
            due("13 door 15", () -> y.through(15, on), 0);
            due("13 door 16", () -> y.through(16, on), ARGUMENT);
            due("13 door -1", () -> y.through(-1, on), ARGUMENT);
        }
    }

    private static void distanceNumbers() {
        PersonSeeds x = house(SEED, 1);
        due("14 the only room", () -> x.distance(0, 0), 0);
        due("14 no room 1", () -> x.distance(0, 1), ARGUMENT);
        due("14 no room 1", () -> x.distance(1, 0), ARGUMENT);
        PersonSeeds y = house(SEED, 1, 1, 1, 1, 1, 1, 1, 1, 1, 1, 1, 1);
        due("14 without a way", () -> y.distance(0, 11), NONE);
        due("14 without a way", () -> y.distance(11, 0), NONE);
        due("14 of the last", () -> y.distance(11, 11), 0);
        for (int n : new int[] {-1, 12}) {
            due("14 distance(" + n + ", 11)", () -> y.distance(n, 11), ARGUMENT);
            due("14 distance(11, " + n + ")", () -> y.distance(11, n), ARGUMENT);
            due("14 distance(" + n + ", " + n + ")", () -> y.distance(n, n), ARGUMENT);
        }
    }

    // ---- promises 15 and 16

    private static void metNumbers() {
        PersonSeeds x = sixty();
        due("15 before they come", () -> x.met(0, 59), NONE);
        x.run(1);
        due("15 met(0, 59)", () -> x.met(0, 59), 0);
        due("15 met(59, 0)", () -> x.met(59, 0), 0);
        for (int n : new int[] {-1, 60}) {
            due("15 met(" + n + ", 59)", () -> x.met(n, 59), ARGUMENT);
            due("15 met(59, " + n + ")", () -> x.met(59, n), ARGUMENT);
        }
        due("15 both are 0", () -> x.met(0, 0), ARGUMENT);
        due("15 both are 59", () -> x.met(59, 59), ARGUMENT);
        PersonSeeds y = house(SEED, 1);
        due("15 nobody", () -> y.met(0, 1), ARGUMENT);
        y.arrives(0, 1);
        due("15 one alone", () -> y.met(0, 1), ARGUMENT);
        due("15 one alone", () -> y.met(1, 0), ARGUMENT);
        y.arrives(0, 1);
        due("15 two", () -> y.met(0, 1), NONE);
    }

    private static void enteredBeforeAnything() {
        PersonSeeds x = new PersonSeeds(SEED);
        due("16 without a room", () -> x.entered(true), 0);
        due("16 without a room", () -> x.entered(false), 0);
        x.room(100);
        x.arrives(0, 20);
        x.arrives(0, 20);
        x.arrives(0, 20);
        due("16 before they come", () -> x.entered(true), 0);
        x.run(1);
        due("16 all sixty", () -> x.entered(true), 60);
        due("16 none went out", () -> x.entered(false), 0);
        runTo(x, 1, 2000);
        due("16 each came in once", () -> x.entered(true), 60);
        due("16 each went out once", () -> x.entered(false), 60);
    }

    // ---- 'An object is used for at most 512 calls after it has been made'

    /** Four calls of set-up and 508 minutes, each by a call of its own. */
    private static void fiveHundredAndTwelveCalls() {
        PersonSeeds x = house(SEED, 100);
        x.arrives(0, 20);
        x.arrives(0, 20);
        x.arrives(0, 20);
        int[] leaving = new int[60];
        for (int p = 0; p < 60; p++) {
            leaving[p] = leaves(SEED, p, 0);
        }
        for (int minute = 0; minute < 508; minute++) {
            int inside = 0;
            for (int leaves : leaving) {
                inside += leaves > minute ? 1 : 0;
            }
            due("the call " + (minute + 5), () -> x.run(1), inside);
        }
    }

    private static void fiveHundredAndElevenRefusedCalls() {
        PersonSeeds x = new PersonSeeds(SEED);
        for (int call = 1; call < 512; call++) {
            due("the call " + call, () -> x.room(101), ARGUMENT);
        }
        due("the call 512", () -> x.room(100), 0);
    }

    /** What later calls answer is free; but they end, and the machine itself throws in none of them. */
    private static void laterCallsStillEnd() {
        PersonSeeds x = sixty();
        for (int i = 0; i < 4000; i++) {
            int n = i % 14 - 1;
            mayAnswer(() -> x.room(n));
            mayAnswer(() -> x.door(n, n + 1, n));
            mayAnswer(() -> x.arrives(n, n));
            mayAnswer(() -> x.draw(n, n, n));
            mayAnswer(() -> x.run(n));
            mayAnswer(() -> x.person(n, n));
            mayAnswer(() -> x.was(n, n * 200));
            mayAnswer(() -> x.in(n, n));
            mayAnswer(() -> x.inThen(n, n * 200));
            mayAnswer(() -> x.through(n, true));
            mayAnswer(() -> x.distance(n, 11 - n));
            mayAnswer(() -> x.met(n, n + 1));
        }
    }

    private static void mayAnswer(IntSupplier call) {
        String got = answer(call);
        if (got.startsWith("throws.") && !got.equals(ARGUMENT) && !got.equals(STATE)) {
            tellWrong("a call behind the 512th " + got);
        }
    }
}
