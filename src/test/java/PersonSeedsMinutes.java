import java.util.ArrayList;
import java.util.List;

/** The edges of 'Terms' and of 'EACH MINUTE': the first and the last minute, cell and place in a door. */
public final class PersonSeedsMinutes extends DueAnswers {
    private static final long GOLDEN = 0x9E3779B97F4A7C15L;

    public static void main(String[] args) {
        drawOfNothing();
        drawBeyondSixtyFourBits();
        deskAndTableAmongTheRooms();
        shortestAndLongestTimes();
        outsideFirst();
        firstAndLastArrival();
        wantsFromAndUntil();
        eatsAtItsDesk();
        eatsBesideItsDesk();
        leavesFromAfar();
        waysOfEveryLength();
        noWayByOutside();
        allComeInAtOnce();
        allGoOutAtOnce();
        earlierMinutesComeFirst();
        lowerNumbersComeInFirst();
        comesInWhateverItWants();
        comesInWhileItEats();
        doorThatIsNotNearer();
        doorOfLeastNumberNearer();
        doorOfLeastNumberIntoAFullRoom();
        doorUsedFromBothSides();
        everyCell();
        everyWidth();
        widthIsOfOneMinute();
        widthOfBothWays();
        widthOfEachDoor();
        fullRoomAndFullDoor();
        whoWaitsTakesNoPlaceInTheDoor();
        noWayToItsDesk();
        noWayToItsTable();
        leftWithoutComingIn();
        leftBeforeThereWasSpace();
        whoHasLeftStaysOutside();
        fullBehindTheMinute();
        mostBehindTheMinute();
        metFirst();
        metNever();
        end();
    }

    // ---- what these tests use

    private static void dueWas(PersonSeeds x, int p, int minute, int place) {
        due("9 was(" + p + ", " + minute + ")", () -> x.was(p, minute), place);
    }

    private static void dueWaited(PersonSeeds x, int p, int minutes) {
        due("10 waited(" + p + ")", () -> x.waited(p), minutes);
    }

    private static void dueThrough(PersonSeeds x, int door, int on, int back) {
        due("13 through(" + door + ", true)", () -> x.through(door, true), on);
        due("13 through(" + door + ", false)", () -> x.through(door, false), back);
    }

    private static void sixtyArrive(PersonSeeds x, int minute) {
        x.arrives(minute, 20);
        x.arrives(minute, 20);
        x.arrives(minute, 20);
    }

    /** Of sixty persons those whose desk is that room. */
    private static List<Integer> deskedIn(long seed, int room, int rooms) {
        List<Integer> found = new ArrayList<>();
        for (int p = 0; p < 60; p++) {
            if (desk(seed, p, rooms) == room) {
                found.add(p);
            }
        }
        return found;
    }

    /** Two rooms and a door: the one person's desk is behind it, its table before it. */
    private static long deskBehindTableBefore() {
        return seedWith(s -> desk(s, 0, 2) == 1 && eatsIn(s, 0, 2) == 0);
    }

    // ---- DRAW: 'all longs without sign beyond 64 bits'

    /** A seed that the first sum wraps to 0: nothing is left to mix, and every draw is 0. */
    private static void drawOfNothing() {
        for (int p : new int[] {0, 1, 59}) {
            for (int k : new int[] {0, 7}) {
                PersonSeeds x = new PersonSeeds(-GOLDEN * (8 * p + k + 1));
                for (int m : new int[] {1, 2, 3, 1000000}) {
                    due("5 draw(" + p + ", " + k + ", " + m + ") of nothing", () -> x.draw(p, k, m), 0);
                }
            }
        }
    }

    /** Draws from numbers with and without the highest bit, which is no sign. */
    private static void drawBeyondSixtyFourBits() {
        long[] seeds = {Long.MIN_VALUE, Long.MIN_VALUE + 1, -GOLDEN - 1, -2, -1, 0, 1, 2, GOLDEN,
            1L << 32, Long.MAX_VALUE - 1, Long.MAX_VALUE};
        int high = 0;
        int low = 0;
        for (long seed : seeds) {
            PersonSeeds x = new PersonSeeds(seed);
            for (int p : new int[] {0, 7, 58, 59}) {
                for (int i = 0; i < 8; i++) {
                    int k = i;
                    high += mixed(seed, p, k).testBit(63) ? 1 : 0;
                    low += mixed(seed, p, k).testBit(63) ? 0 : 1;
                    for (int m : new int[] {2, 7, 999983, 1000000}) {
                        due("5 draw(" + p + ", " + k + ", " + m + ") of " + seed,
                            () -> x.draw(p, k, m), draw(seed, p, k, m));
                    }
                }
            }
        }
        if (high < 50 || low < 50) {
            tellWrong("these seeds do not test both kinds of numbers");
        }
    }

    // ---- 'When person p comes, at minute t, with R rooms'

    private static void deskAndTableAmongTheRooms() {
        for (int rooms = 1; rooms <= 12; rooms++) {
            int count = rooms;
            for (int room : new int[] {0, rooms - 1}) {
                long seed = seedWith(s -> desk(s, 0, count) == room && eatsIn(s, 0, count) == count - 1 - room);
                PersonSeeds x = new PersonSeeds(seed);
                for (int i = 0; i < rooms; i++) {
                    x.room(1);
                }
                x.arrives(0, 1);
                due("7 the desk of " + rooms + " rooms", () -> x.person(0, 1), room);
                due("7 the table of " + rooms + " rooms", () -> x.person(0, 4), count - 1 - room);
            }
        }
    }

    private static void dueTimes(String what, long seed, int from, int length, int stay) {
        for (int t : new int[] {0, 1439}) {
            PersonSeeds x = house(seed, 1);
            x.arrives(t, 1);
            int eats = from >= 0 ? t + from : eatsFrom(seed, 0, t);
            int until = length >= 0 ? eats + length : eatsUntil(seed, 0, t);
            due("7 " + what + ", it comes", () -> x.person(0, 0), t);
            due("7 " + what + ", it eats from", () -> x.person(0, 2), eats);
            due("7 " + what + ", it eats until", () -> x.person(0, 3), until);
            due("7 " + what + ", it leaves", () -> x.person(0, 5), stay >= 0 ? t + stay : leaves(seed, 0, t));
        }
    }

    /** 't + 30 + DRAW (p, 1, 90)', '20 + DRAW (p, 2, 20) minutes', 't + 200 + DRAW (p, 4, 200)' */
    private static void shortestAndLongestTimes() {
        dueTimes("soonest", seedWith(s -> draw(s, 0, 1, 90) == 0), 30, -1, -1);
        dueTimes("latest", seedWith(s -> draw(s, 0, 1, 90) == 89), 119, -1, -1);
        dueTimes("shortest", seedWith(s -> draw(s, 0, 2, 20) == 0), -1, 20, -1);
        dueTimes("longest", seedWith(s -> draw(s, 0, 2, 20) == 19), -1, 39, -1);
        dueTimes("first out", seedWith(s -> draw(s, 0, 4, 200) == 0), -1, -1, 200);
        dueTimes("last out", seedWith(s -> draw(s, 0, 4, 200) == 199), -1, -1, 399);
    }

    /** 'It is OUTSIDE first.' A person that is told is a person, though it has not come. */
    private static void outsideFirst() {
        PersonSeeds x = house(3, 5);
        due("8 nobody is told", () -> x.at(0), ARGUMENT);
        due("4 how many there will be", () -> x.arrives(2, 2), 2);
        for (int over = 0; over < 2; over++) {
            for (int p = 0; p < 2; p++) {
                int who = p;
                due("8 outside behind " + over + " minutes", () -> x.at(who), NONE);
                due("10 it waits for nothing", () -> x.waited(who), 0);
            }
            due("15 outside is no room", () -> x.met(0, 1), NONE);
            due("6 nobody is inside", () -> x.run(1), 0);
            dueWas(x, 0, over, NONE);
            dueWas(x, 1, over, NONE);
        }
        due("6 they come", () -> x.run(1), 2);
        dueWas(x, 0, 1, NONE);
        dueWas(x, 0, 2, 0);
        due("15 they met", () -> x.met(0, 1), 2);
    }

    /** 'persons that come then are there': those of minute 0 in the first minute, of 1439 in that one. */
    private static void firstAndLastArrival() {
        PersonSeeds x = house(3, 5);
        x.arrives(1439, 1);
        x.arrives(0, 1);
        due("6 minute 0", () -> x.run(1), 1);
        dueWas(x, 0, 0, 0);
        runTo(x, 1, 1439);
        due("8 not come yet", () -> x.at(1), NONE);
        due("6 minute 1439", () -> x.run(1), 1);
        due("8 come", () -> x.at(1), 0);
        dueWas(x, 1, 1438, NONE);
        runTo(x, 1440, 2000);
        int leaves = leaves(3, 1, 1439);
        dueWas(x, 1, leaves - 1, 0);
        dueWas(x, 1, leaves, NONE);
        due("16 both went out", () -> x.entered(false), 2);
    }

    // ---- IT WANTS: 'from its leaving on outside; while it eats in that room; else at its desk'

    private static void wantsFromAndUntil() {
        long seed = deskBehindTableBefore();
        for (int t : new int[] {0, 11}) {
            PersonSeeds x = house(seed, 1, 1);
            x.door(0, 1, 1);
            x.arrives(t, 1);
            runTo(x, 0, 450);
            int from = eatsFrom(seed, 0, t);
            int until = eatsUntil(seed, 0, t);
            int leaves = leaves(seed, 0, t);
            if (t > 0) {
                dueWas(x, 0, t - 1, NONE);
            }
            dueWas(x, 0, t, 0);
            dueWas(x, 0, t + 1, 1);
            dueWas(x, 0, from - 1, 1);
            dueWas(x, 0, from, 0);
            dueWas(x, 0, until - 1, 0);
            dueWas(x, 0, until, 1);
            dueWas(x, 0, leaves - 1, 1);
            dueWas(x, 0, leaves, 0);
            dueWas(x, 0, leaves + 1, NONE);
            dueThrough(x, 0, 2, 2);
        }
    }

    private static void eatsAtItsDesk() {
        long seed = seedWith(s -> desk(s, 0, 2) == 1 && eatsIn(s, 0, 2) == 1);
        PersonSeeds x = house(seed, 1, 1);
        x.door(0, 1, 1);
        x.arrives(0, 1);
        runTo(x, 0, 450);
        dueWas(x, 0, eatsFrom(seed, 0, 0), 1);
        dueWas(x, 0, eatsUntil(seed, 0, 0), 1);
        dueThrough(x, 0, 1, 1);
        dueWaited(x, 0, 0);
    }

    private static void eatsBesideItsDesk() {
        long seed = seedWith(s -> desk(s, 0, 2) == 0 && eatsIn(s, 0, 2) == 1);
        PersonSeeds x = house(seed, 1, 1);
        x.door(0, 1, 1);
        x.arrives(0, 1);
        runTo(x, 0, 450);
        int from = eatsFrom(seed, 0, 0);
        int until = eatsUntil(seed, 0, 0);
        int leaves = leaves(seed, 0, 0);
        dueWas(x, 0, from - 1, 0);
        dueWas(x, 0, from, 1);
        dueWas(x, 0, until - 1, 1);
        dueWas(x, 0, until, 0);
        dueWas(x, 0, leaves - 1, 0);
        dueWas(x, 0, leaves, NONE);
        dueThrough(x, 0, 1, 1);
    }

    /** 'Outside is beside room 0 alone': from room 11 of a row it is twelve minutes to outside. */
    private static void leavesFromAfar() {
        long seed = seedWith(s -> desk(s, 0, 12) == 11);
        PersonSeeds x = house(seed, 1, 1, 1, 1, 1, 1, 1, 1, 1, 1, 1, 1);
        for (int i = 0; i < 11; i++) {
            x.door(i + 1, i, 1);
        }
        x.arrives(0, 1);
        runTo(x, 0, 450);
        int leaves = leaves(seed, 0, 0);
        for (int i = 0; i < 12; i++) {
            dueWas(x, 0, i, i);
            dueWas(x, 0, leaves - 1 + i, 11 - i);
        }
        dueWas(x, 0, leaves + 11, NONE);
    }

    // ---- 'A WAY between rooms goes by doors; a room's DISTANCE from another one is the fewest doors'

    private static void waysOfEveryLength() {
        PersonSeeds x = house(1, 1, 1, 1, 1, 1, 1, 1, 1, 1, 1, 1, 1);
        for (int i = 11; i > 0; i--) {
            int room = i;
            due("14 not yet", () -> x.distance(0, room), NONE);
            x.door(i, i - 1, 1);
        }
        for (int i = 0; i < 12; i++) {
            int room = i;
            due("14 " + i + " doors", () -> x.distance(0, room), room);
            due("14 " + i + " doors back", () -> x.distance(room, 0), room);
            due("14 of one room", () -> x.distance(room, room), 0);
        }
        x.door(1, 10, 1);
        due("14 by the short cut", () -> x.distance(0, 11), 3);
        due("14 by the short cut", () -> x.distance(9, 1), 2);
        due("14 half way round", () -> x.distance(6, 0), 6);
        x.door(10, 1, 20);
        due("14 the same by a second door", () -> x.distance(11, 0), 3);
    }

    private static void noWayByOutside() {
        PersonSeeds x = house(1, 1, 1, 1, 1);
        x.door(2, 3, 1);
        due("14 beside outside", () -> x.distance(0, 0), 0);
        due("14 no door", () -> x.distance(0, 1), NONE);
        due("14 no door", () -> x.distance(1, 2), NONE);
        due("14 no way in", () -> x.distance(0, 3), NONE);
        due("14 no way out", () -> x.distance(3, 0), NONE);
        due("14 a door", () -> x.distance(3, 2), 1);
        x.door(1, 3, 1);
        due("14 the second part grows", () -> x.distance(1, 2), 2);
        due("14 and has no way to the first", () -> x.distance(0, 2), NONE);
        x.door(0, 2, 1);
        due("14 until there is a door", () -> x.distance(0, 1), 3);
    }

    /** 'without a door that counts': sixty come in in one minute, though the one door's width is 1. */
    private static void allComeInAtOnce() {
        PersonSeeds x = house(1, 60, 1);
        x.door(0, 1, 1);
        sixtyArrive(x, 0);
        due("6 all are in", () -> x.run(1), 60);
        due("11 in(0, 0)", () -> x.in(0, 0), 60);
        due("16 entered(true)", () -> x.entered(true), 60);
        dueThrough(x, 0, 0, 0);
        for (int p = 0; p < 60; p++) {
            dueWaited(x, p, 0);
        }
    }

    /** '(outside always)': all that leave in one minute go out in it. */
    private static void allGoOutAtOnce() {
        long seed = seedWith(s -> leaves(s, 0, 0) == leaves(s, 1, 0) && leaves(s, 1, 0) == leaves(s, 2, 0));
        PersonSeeds x = house(seed, 60);
        sixtyArrive(x, 0);
        runTo(x, 0, leaves(seed, 0, 0));
        int before = x.in(0, 0);
        int leaving = 0;
        for (int p = 0; p < 60; p++) {
            leaving += leaves(seed, p, 0) == leaves(seed, 0, 0) ? 1 : 0;
        }
        int left = before - leaving;
        due("6 they are out", () -> x.run(1), left);
        runTo(x, leaves(seed, 0, 0) + 1, 450);
        for (int p = 0; p < 60; p++) {
            dueWas(x, p, leaves(seed, p, 0) - 1, 0);
            dueWas(x, p, leaves(seed, p, 0), NONE);
            dueWaited(x, p, 0);
        }
    }

    // ---- 'in order', 'by their numbers'

    /** Told last and come first is person 0, with the draws of person 0. */
    private static void earlierMinutesComeFirst() {
        PersonSeeds x = house(7, 1, 1, 1, 1, 1);
        x.arrives(6, 1);
        x.arrives(5, 2);
        x.arrives(6, 1);
        x.arrives(4, 1);
        x.arrives(5, 1);
        int[] comes = {4, 5, 5, 5, 6, 6};
        for (int i = 0; i < 6; i++) {
            int p = i;
            due("7 person(" + p + ", 0)", () -> x.person(p, 0), comes[p]);
            due("7 person(" + p + ", 1)", () -> x.person(p, 1), desk(7, p, 5));
            due("7 person(" + p + ", 5)", () -> x.person(p, 5), leaves(7, p, comes[p]));
        }
        due("4 no seventh", () -> x.person(6, 0), ARGUMENT);
    }

    private static void lowerNumbersComeInFirst() {
        long seed = seedWith(s -> desk(s, 0, 2) == 0 && desk(s, 1, 2) == 0 && desk(s, 2, 2) == 0);
        PersonSeeds x = house(seed, 2, 1);
        x.arrives(3, 2);
        x.arrives(3, 1);
        due("6 two are in", () -> x.run(4), 2);
        due("8 at(0)", () -> x.at(0), 0);
        due("8 at(1)", () -> x.at(1), 0);
        due("8 at(2)", () -> x.at(2), NONE);
        dueWaited(x, 1, 0);
        dueWaited(x, 2, 1);
    }

    /** 'from outside into room 0, whatever room they want': also one to which there is no way. */
    private static void comesInWhateverItWants() {
        for (int room = 0; room < 3; room++) {
            int wanted = room;
            long seed = seedWith(s -> desk(s, 0, 3) == wanted);
            PersonSeeds x = house(seed, 1, 1, 1);
            x.arrives(0, 1);
            due("6 it is in", () -> x.run(1), 1);
            due("8 at(0)", () -> x.at(0), 0);
            due("16 entered(true)", () -> x.entered(true), 1);
        }
    }

    /** It waits outside until after it began to eat elsewhere; then too it first comes into room 0. */
    private static void comesInWhileItEats() {
        long seed = seedWith(s -> leaves(s, 0, 0) == 202 && desk(s, 0, 2) == 0 && eatsIn(s, 0, 2) == 0
            && desk(s, 1, 2) == 0 && eatsIn(s, 1, 2) == 1);
        int t = 202 - eatsFrom(seed, 1, 0) - 3;
        PersonSeeds x = house(seed, 1, 1);
        x.door(0, 1, 1);
        x.arrives(0, 1);
        x.arrives(t, 1);
        runTo(x, 0, 300);
        int from = eatsFrom(seed, 1, t);
        int until = eatsUntil(seed, 1, t);
        due("7 it eats from", () -> x.person(1, 2), 199);
        dueWas(x, 1, from, NONE);
        dueWas(x, 1, 201, NONE);
        dueWas(x, 1, 202, 0);
        dueWas(x, 1, 203, 1);
        dueWas(x, 1, until - 1, 1);
        dueWas(x, 1, until, 0);
        dueWaited(x, 1, 202 - t);
    }

    // ---- 'through the door of least number whose other room is nearer to what they want'

    /** Doors 0 and 1 go away from the desk or along at its distance: only door 2 goes nearer. */
    private static void doorThatIsNotNearer() {
        long seed = seedWith(s -> desk(s, 0, 4) == 3);
        PersonSeeds x = house(seed, 9, 9, 9, 9);
        x.door(0, 1, 9);
        x.door(0, 2, 9);
        x.door(0, 3, 9);
        x.door(2, 3, 9);
        x.arrives(0, 1);
        x.run(2);
        due("8 at(0)", () -> x.at(0), 3);
        dueThrough(x, 0, 0, 0);
        dueThrough(x, 1, 0, 0);
        dueThrough(x, 2, 1, 0);
        dueThrough(x, 3, 0, 0);
    }

    private static void doorOfLeastNumberNearer() {
        long seed = seedWith(s -> desk(s, 0, 4) == 3 && eatsIn(s, 0, 4) == 3);
        PersonSeeds x = house(seed, 9, 9, 9, 9);
        x.door(3, 2, 9);
        x.door(2, 0, 9);
        x.door(1, 0, 9);
        x.door(3, 1, 9);
        x.door(0, 2, 9);
        x.arrives(0, 1);
        runTo(x, 0, 450);
        int leaves = leaves(seed, 0, 0);
        dueWas(x, 0, 1, 2);
        dueWas(x, 0, 2, 3);
        dueWas(x, 0, leaves, 2);
        dueWas(x, 0, leaves + 1, 0);
        dueThrough(x, 0, 1, 1);
        dueThrough(x, 1, 1, 1);
        dueThrough(x, 2, 0, 0);
        dueThrough(x, 3, 0, 0);
        dueThrough(x, 4, 0, 0);
    }

    /** Another door that goes nearer is no way round a full room. */
    private static void doorOfLeastNumberIntoAFullRoom() {
        long seed = seedWith(s -> desk(s, 0, 4) == 2 && desk(s, 1, 4) == 3);
        PersonSeeds x = house(seed, 9, 9, 1, 9);
        x.door(0, 2, 9);
        x.door(2, 3, 9);
        x.door(0, 1, 9);
        x.door(1, 3, 9);
        x.arrives(0, 2);
        x.run(5);
        due("8 the first is at its desk", () -> x.at(0), 2);
        due("8 the second is not", () -> x.at(1), 0);
        dueWaited(x, 1, 4);
        dueThrough(x, 2, 0, 0);
    }

    private static void doorUsedFromBothSides() {
        for (boolean turned : new boolean[] {false, true}) {
            long seed = deskBehindTableBefore();
            int from = eatsFrom(seed, 0, 0);
            PersonSeeds x = house(seed, 9, 9);
            x.door(turned ? 1 : 0, turned ? 0 : 1, 1);
            x.arrives(0, 1);
            x.run(1);
            dueThrough(x, 0, 0, 0);
            x.run(1);
            dueThrough(x, 0, turned ? 0 : 1, turned ? 1 : 0);
            runTo(x, 2, from);
            dueThrough(x, 0, turned ? 0 : 1, turned ? 1 : 0);
            x.run(1);
            dueThrough(x, 0, 1, 1);
        }
    }

    // ---- 'They go if the room they go into has fewer persons than cells'

    /** The entrance, and the room behind it, take as many as they have cells and not one more. */
    private static void everyCell() {
        for (int cells : new int[] {1, 2, 59, 60, 61, 100}) {
            PersonSeeds x = house(1, cells);
            sixtyArrive(x, 0);
            int fit = Math.min(cells, 60);
            due("6 of " + cells + " cells", () -> x.run(1), fit);
            due("11 in(0, 0) of " + cells, () -> x.in(0, 0), fit);
            due("11 in(0, 1) of " + cells, () -> x.in(0, 1), fit);
            due("11 in(0, 2) of " + cells, () -> x.in(0, 2), cells <= 60 ? 1 : 0);
            for (int p = 0; p < 60; p++) {
                dueWas(x, p, 0, p < fit ? 0 : NONE);
                dueWaited(x, p, p < fit ? 0 : 1);
            }
        }
        long seed = 1;
        List<Integer> wanting = deskedIn(seed, 1, 2);
        for (int cells : new int[] {1, 2, 9}) {
            PersonSeeds x = house(seed, 100, cells);
            for (int i = 0; i < 5; i++) {
                x.door(0, 1, 20);
            }
            sixtyArrive(x, 0);
            x.run(3);
            for (int i = 0; i < wanting.size(); i++) {
                dueWas(x, wanting.get(i), 1, i < cells ? 1 : 0);
                dueWaited(x, wanting.get(i), i < cells ? 0 : 2);
            }
            due("11 in(1, 0) of " + cells, () -> x.in(1, 0), cells);
            due("11 in(1, 2) of " + cells, () -> x.in(1, 2), 2);
        }
    }

    // ---- 'and fewer than WIDTH went through the door in this minute already, both ways together'

    private static void everyWidth() {
        long seed = seedWith(s -> deskedIn(s, 1, 2).size() >= 30);
        List<Integer> wanting = deskedIn(seed, 1, 2);
        for (int width : new int[] {1, 2, 19, 20}) {
            PersonSeeds x = house(seed, 100, 100);
            x.door(0, 1, width);
            sixtyArrive(x, 0);
            x.run(2);
            for (int i = 0; i < wanting.size(); i++) {
                dueWas(x, wanting.get(i), 1, i < width ? 1 : 0);
                dueWaited(x, wanting.get(i), i < width ? 0 : 1);
            }
            dueThrough(x, 0, width, 0);
        }
    }

    private static void widthIsOfOneMinute() {
        long seed = seedWith(s -> deskedIn(s, 1, 2).size() >= 21);
        List<Integer> wanting = deskedIn(seed, 1, 2);
        PersonSeeds x = house(seed, 100, 100);
        x.door(0, 1, 1);
        sixtyArrive(x, 0);
        for (int i = 0; i < 20; i++) {
            x.run(1);
            dueThrough(x, 0, i, 0);
            dueWaited(x, wanting.get(i), i);
        }
        PersonSeeds y = house(seed, 100, 100);
        y.door(0, 1, 1);
        sixtyArrive(y, 0);
        y.run(20);
        dueThrough(y, 0, 19, 0);
        dueWaited(y, wanting.get(20), 19);
    }

    /** One comes back to eat and one goes in, in one minute, in either order of their numbers. */
    private static void widthOfBothWays() {
        for (int back = 0; back < 2; back++) {
            int comesBack = back;
            int goesOn = 1 - back;
            long seed = seedWith(s -> desk(s, comesBack, 2) == 1 && eatsIn(s, comesBack, 2) == 0
                && desk(s, goesOn, 2) == 0 && eatsIn(s, goesOn, 2) == 1
                && eatsFrom(s, 0, 0) == eatsFrom(s, 1, 0));
            int from = eatsFrom(seed, 0, 0);
            for (int width = 1; width <= 2; width++) {
                PersonSeeds x = house(seed, 9, 9);
                x.door(0, 1, width);
                x.arrives(0, 2);
                runTo(x, 0, from + 2);
                dueWas(x, 0, from, comesBack == 0 ? 0 : 1);
                int second = width == 2 ? from : from + 1;
                dueWas(x, 1, second - 1, comesBack == 1 ? 1 : 0);
                dueWas(x, 1, second, comesBack == 1 ? 0 : 1);
                dueWaited(x, 0, 0);
                dueWaited(x, 1, 2 - width);
                dueThrough(x, 0, 2, 1);
            }
        }
    }

    /** What went through one door is nothing to another one. */
    private static void widthOfEachDoor() {
        long seed = seedWith(s -> desk(s, 0, 3) == 1 && desk(s, 1, 3) == 2 && desk(s, 2, 3) == 1);
        PersonSeeds x = house(seed, 9, 9, 9);
        x.door(0, 1, 1);
        x.door(2, 0, 1);
        x.arrives(0, 3);
        x.run(2);
        due("8 at(0)", () -> x.at(0), 1);
        due("8 at(1)", () -> x.at(1), 2);
        due("8 at(2)", () -> x.at(2), 0);
        dueWaited(x, 1, 0);
        dueWaited(x, 2, 1);
    }

    // ---- 'else they WAIT'

    /** A full room behind a full door is one minute of waiting, not two. */
    private static void fullRoomAndFullDoor() {
        long seed = seedWith(s -> desk(s, 0, 2) == 1 && desk(s, 1, 2) == 1 && desk(s, 2, 2) == 1);
        PersonSeeds x = house(seed, 9, 1);
        x.door(0, 1, 1);
        x.arrives(0, 3);
        x.run(2);
        dueWaited(x, 0, 0);
        dueWaited(x, 1, 1);
        dueWaited(x, 2, 1);
        x.run(1);
        dueWaited(x, 0, 0);
        dueWaited(x, 1, 2);
        dueWaited(x, 2, 2);
    }

    /** The one that finds its room full leaves the door to the next, which goes the other way. */
    private static void whoWaitsTakesNoPlaceInTheDoor() {
        long seed = seedWith(s -> desk(s, 0, 2) == 0 && eatsIn(s, 0, 2) == 1
            && desk(s, 1, 2) == 1 && eatsIn(s, 1, 2) == 0
            && eatsFrom(s, 0, 0) == eatsFrom(s, 1, 0));
        int from = eatsFrom(seed, 0, 0);
        PersonSeeds x = house(seed, 5, 1);
        x.door(0, 1, 1);
        x.arrives(0, 2);
        runTo(x, 0, from + 2);
        dueWas(x, 0, from, 0);
        dueWas(x, 1, from, 0);
        dueWas(x, 0, from + 1, 1);
        dueWaited(x, 0, 1);
        dueWaited(x, 1, 0);
        dueThrough(x, 0, 2, 1);
    }

    // ---- 'If there is no way they neither go nor wait.'

    /** Not even where the rooms beside it are full and its doors are used up. */
    private static void noWayToItsDesk() {
        long seed = seedWith(s -> desk(s, 0, 3) == 1 && desk(s, 1, 3) == 1 && desk(s, 2, 3) == 2
            && eatsIn(s, 2, 3) == 2);
        int leaves = leaves(seed, 2, 0);
        PersonSeeds x = house(seed, 9, 1, 9);
        x.door(0, 1, 1);
        x.arrives(0, 3);
        x.run(20);
        dueWaited(x, 1, 19);
        dueWaited(x, 2, 0);
        due("8 at(2)", () -> x.at(2), 0);
        runTo(x, 20, leaves + 1);
        dueWas(x, 2, leaves - 1, 0);
        dueWas(x, 2, leaves, NONE);
        dueWaited(x, 2, 0);
    }

    /** It stays at its desk while it would eat. */
    private static void noWayToItsTable() {
        long seed = seedWith(s -> desk(s, 0, 3) == 1 && eatsIn(s, 0, 3) == 2);
        PersonSeeds x = house(seed, 9, 9, 9);
        x.door(1, 0, 1);
        x.arrives(0, 1);
        runTo(x, 0, 450);
        for (int minute = eatsFrom(seed, 0, 0); minute <= eatsUntil(seed, 0, 0); minute++) {
            dueWas(x, 0, minute, 1);
        }
        dueWaited(x, 0, 0);
        dueThrough(x, 0, 1, 1);
        due("11 in(2, 1)", () -> x.in(2, 1), 0);
    }

    // ---- 'Who is outside and has left stays there.'

    /** It waits in every minute below its leaving, and in none from it on. */
    private static void leftWithoutComingIn() {
        long seed = seedWith(s -> leaves(s, 1, 0) == leaves(s, 0, 0) - 1);
        int leaves = leaves(seed, 1, 0);
        PersonSeeds x = house(seed, 1);
        x.arrives(0, 2);
        runTo(x, 0, leaves);
        dueWaited(x, 1, leaves);
        x.run(1);
        dueWaited(x, 1, leaves);
        due("6 nobody is in", () -> x.run(1), 0);
        runTo(x, leaves + 2, 2000);
        dueWaited(x, 1, leaves);
        due("8 at(1)", () -> x.at(1), NONE);
        due("16 entered(true)", () -> x.entered(true), 1);
        due("16 entered(false)", () -> x.entered(false), 1);
    }

    /** There is space for it in the very minute of its leaving: too late; a minute before: it comes in. */
    private static void leftBeforeThereWasSpace() {
        for (int late = 0; late < 2; late++) {
            int minutes = late;
            long seed = seedWith(s -> leaves(s, 1, 0) == leaves(s, 0, 0) + minutes);
            int space = leaves(seed, 0, 0);
            PersonSeeds x = house(seed, 1);
            x.arrives(0, 2);
            runTo(x, 0, space + 2);
            dueWas(x, 0, space, NONE);
            dueWas(x, 1, space, late == 0 ? NONE : 0);
            dueWas(x, 1, space + 1, NONE);
            dueWaited(x, 1, space);
            due("16 entered(true)", () -> x.entered(true), 1 + minutes);
        }
    }

    private static void whoHasLeftStaysOutside() {
        long seed = deskBehindTableBefore();
        PersonSeeds x = house(seed, 9, 9);
        x.door(0, 1, 1);
        x.arrives(0, 1);
        runTo(x, 0, 2000);
        int out = leaves(seed, 0, 0) + 1;
        dueWas(x, 0, out - 1, 0);
        for (int minute : new int[] {out, out + 1, out + 2, 1000, 1999}) {
            dueWas(x, 0, minute, NONE);
            due("12 inThen(0, " + minute + ")", () -> x.inThen(0, minute), 0);
        }
        dueWaited(x, 0, 0);
        due("16 entered(true)", () -> x.entered(true), 1);
        due("16 entered(false)", () -> x.entered(false), 1);
    }

    // ---- promise 11: 'behind any minute', 'in how many minutes' ends it was full'

    /** Person 0 fills the entrance for one minute's end, and then its desk's room until it eats. */
    private static void fullBehindTheMinute() {
        long seed = deskBehindTableBefore();
        int from = eatsFrom(seed, 0, 0);
        PersonSeeds x = house(seed, 1, 1);
        x.door(0, 1, 1);
        x.arrives(1, 1);
        int[][] full = {{0, 0}, {1, 0}, {1, 1}, {1, 2}};
        for (int[] ends : full) {
            x.run(1);
            due("11 in(0, 2)", () -> x.in(0, 2), ends[0]);
            due("11 in(1, 2)", () -> x.in(1, 2), ends[1]);
        }
        runTo(x, 4, from + 1);
        due("11 in(1, 2) before it eats", () -> x.in(1, 2), from - 1);
        x.run(1);
        due("11 in(1, 2) while it eats", () -> x.in(1, 2), from - 1);
        due("11 in(0, 2) while it eats", () -> x.in(0, 2), 2);
        runTo(x, from + 2, 2000);
        int eating = eatsUntil(seed, 0, 1) - eatsFrom(seed, 0, 1);
        due("11 in(0, 2) in the end", () -> x.in(0, 2), 1 + eating + 1);
        due("11 in(1, 2) in the end", () -> x.in(1, 2), leaves(seed, 0, 1) - 2 - eating);
    }

    /** Two change places in a minute: one room has both for a moment, but behind no minute. */
    private static void mostBehindTheMinute() {
        long seed = seedWith(s -> desk(s, 0, 2) == 1 && eatsIn(s, 0, 2) == 0
            && desk(s, 1, 2) == 0 && eatsIn(s, 1, 2) == 1
            && eatsFrom(s, 0, 0) == eatsFrom(s, 1, 0));
        int from = eatsFrom(seed, 0, 0);
        PersonSeeds x = house(seed, 3, 3);
        x.door(0, 1, 2);
        x.arrives(0, 2);
        x.run(1);
        due("11 both come in", () -> x.in(0, 1), 2);
        runTo(x, 1, from);
        due("11 one is in each", () -> x.in(0, 0), 1);
        due("11 at most one was behind the door", () -> x.in(1, 1), 1);
        x.run(1);
        dueWas(x, 0, from, 0);
        dueWas(x, 1, from, 1);
        due("11 one is in each", () -> x.in(1, 0), 1);
        due("11 at most one was behind the door", () -> x.in(1, 1), 1);
        due("11 the most stays", () -> x.in(0, 1), 2);
        due("12 it was two behind minute 0", () -> x.inThen(0, 0), 2);
    }

    // ---- promise 15: 'The first minute behind which two persons were in one room'

    /** They meet in the room 1 a minute after the second came in, again and again later: the first counts. */
    private static void metFirst() {
        long seed = seedWith(s -> desk(s, 0, 2) == 1 && desk(s, 1, 2) == 1 && eatsIn(s, 0, 2) == 0
            && eatsIn(s, 1, 2) == 0);
        PersonSeeds x = house(seed, 9, 9);
        x.door(0, 1, 9);
        x.arrives(0, 1);
        x.arrives(5, 1);
        x.run(6);
        due("15 one in each room", () -> x.met(0, 1), NONE);
        due("15 one in each room", () -> x.met(1, 0), NONE);
        x.run(1);
        due("15 in the minute that is over last", () -> x.met(0, 1), 6);
        due("15 in the minute that is over last", () -> x.met(1, 0), 6);
        runTo(x, 7, 2000);
        due("15 still the first", () -> x.met(0, 1), 6);
        due("15 still the first", () -> x.met(1, 0), 6);
    }

    /** In one house at one time, but never in one room; and both outside before and behind. */
    private static void metNever() {
        long seed = seedWith(s -> desk(s, 0, 2) == 1 && desk(s, 1, 2) == 0 && eatsIn(s, 0, 2) == 1
            && eatsIn(s, 1, 2) == 0 && leaves(s, 1, 0) < leaves(s, 0, 0));
        PersonSeeds x = house(seed, 1, 1);
        x.door(0, 1, 1);
        x.arrives(0, 2);
        x.run(1);
        due("15 the second waits outside", () -> x.met(0, 1), NONE);
        runTo(x, 1, 2000);
        due("15 never", () -> x.met(0, 1), NONE);
        due("15 never", () -> x.met(1, 0), NONE);
        due("16 both came in", () -> x.entered(true), 2);
        due("16 both went out", () -> x.entered(false), 2);
    }
}
