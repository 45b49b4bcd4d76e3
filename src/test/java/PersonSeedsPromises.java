/** Each promise of the document with ordinary inputs, its edges and wrong inputs. */
public final class PersonSeedsPromises extends DueAnswers {
    public static void main(String[] args) {
        promise1NewObject();
        promise2Room();
        promise3Door();
        promise4Arrives();
        promise4Order();
        promise5Draw();
        promise6Run();
        promise6Whole();
        promise7Person();
        walkOfOnePerson();
        longestWalk();
        leastDoorIsTheOnlyOne();
        doorLetsWidthThrough();
        doorCountsBothWays();
        passingInADoor();
        entranceHoldsSoMany();
        roomHoldsSoMany();
        lowerNumberMakesRoomFirst();
        higherNumberMakesRoomLater();
        noWay();
        distances();
        wrongAsking();
        nothingComesBeforeItsMinute();
        end();
    }

    // ---- the promises

    private static void promise1NewObject() {
        due("1 NONE", () -> PersonSeeds.NONE, -1);
        for (long seed : new long[] {0, 1, -1, Long.MIN_VALUE, Long.MAX_VALUE}) {
            PersonSeeds x = new PersonSeeds(seed);
            due("1 in(0, 0)", () -> x.in(0, 0), ARGUMENT);
            due("1 at(0)", () -> x.at(0), ARGUMENT);
            due("1 distance(0, 0)", () -> x.distance(0, 0), ARGUMENT);
            due("1 through(0)", () -> x.through(0, true), ARGUMENT);
            due("1 entered(true)", () -> x.entered(true), 0);
            due("1 entered(false)", () -> x.entered(false), 0);
            due("1 run(1)", () -> x.run(1), STATE);
            due("1 room(1)", () -> x.room(1), 0);
            due("1 inThen(0, 0)", () -> x.inThen(0, 0), ARGUMENT);
            due("1 run(1)", () -> x.run(1), 0);
            due("1 inThen(0, 0)", () -> x.inThen(0, 0), 0);
            due("1 inThen(0, 1)", () -> x.inThen(0, 1), ARGUMENT);
        }
    }

    private static void promise2Room() {
        PersonSeeds x = new PersonSeeds(5);
        for (int cells : new int[] {0, -1, 101, Integer.MIN_VALUE, Integer.MAX_VALUE}) {
            due("2 room(" + cells + ")", () -> x.room(cells), ARGUMENT);
        }
        due("2 no room yet", () -> x.in(0, 0), ARGUMENT);
        for (int i = 0; i < 12; i++) {
            int cells = i % 2 == 0 ? 1 : 100;
            due("2 room " + i, () -> x.room(cells), i);
        }
        due("2 room 12", () -> x.room(1), STATE);
        due("2 room 12, too large", () -> x.room(101), ARGUMENT);
        due("2 room 11 is there", () -> x.in(11, 0), 0);
        due("2 room 12 is not there", () -> x.in(12, 0), ARGUMENT);

        PersonSeeds y = house(5, 3);
        y.run(1);
        due("2 room behind a minute", () -> y.room(3), STATE);
        due("2 room behind a minute, of no cells", () -> y.room(0), ARGUMENT);
        due("2 still one room", () -> y.in(1, 0), ARGUMENT);
    }

    private static void promise3Door() {
        PersonSeeds x = house(5, 1, 1, 1);
        due("3 door(0, 0, 1)", () -> x.door(0, 0, 1), ARGUMENT);
        due("3 door(3, 3, 1)", () -> x.door(3, 3, 1), ARGUMENT);
        due("3 door(-1, 0, 1)", () -> x.door(-1, 0, 1), ARGUMENT);
        due("3 door(0, -1, 1)", () -> x.door(0, -1, 1), ARGUMENT);
        due("3 door(3, 0, 1)", () -> x.door(3, 0, 1), ARGUMENT);
        due("3 door(0, 3, 1)", () -> x.door(0, 3, 1), ARGUMENT);
        due("3 door(0, 1, 0)", () -> x.door(0, 1, 0), ARGUMENT);
        due("3 door(0, 1, 21)", () -> x.door(0, 1, 21), ARGUMENT);
        due("3 door(0, 1, least)", () -> x.door(0, 1, Integer.MIN_VALUE), ARGUMENT);
        due("3 no door yet", () -> x.distance(0, 1), NONE);
        for (int i = 0; i < 16; i++) {
            int width = i % 2 == 0 ? 1 : 20;
            due("3 door " + i, () -> x.door(0, 1, width), i);
        }
        due("3 door 16", () -> x.door(0, 2, 1), STATE);
        due("3 door 16 of one room", () -> x.door(2, 2, 1), ARGUMENT);
        due("3 door 16 of width 0", () -> x.door(0, 2, 0), ARGUMENT);
        due("3 door 16 made no way", () -> x.distance(0, 2), NONE);
        due("3 door 15 is there", () -> x.through(15, true), 0);
        due("3 door 16 is not there", () -> x.through(16, true), ARGUMENT);

        PersonSeeds y = house(5, 3, 3);
        y.run(1);
        due("3 door behind a minute", () -> y.door(0, 1, 1), STATE);
        due("3 door behind a minute, of one room", () -> y.door(1, 1, 1), ARGUMENT);
        due("3 door behind a minute made no way", () -> y.distance(0, 1), NONE);
    }

    private static void promise4Arrives() {
        PersonSeeds x = new PersonSeeds(5);
        due("4 arrives without a room", () -> x.arrives(0, 1), STATE);
        due("4 arrives without a room, none", () -> x.arrives(0, 0), ARGUMENT);
        x.room(9);
        due("4 arrives(-1, 1)", () -> x.arrives(-1, 1), ARGUMENT);
        due("4 arrives(1440, 1)", () -> x.arrives(1440, 1), ARGUMENT);
        due("4 arrives(0, 0)", () -> x.arrives(0, 0), ARGUMENT);
        due("4 arrives(0, 21)", () -> x.arrives(0, 21), ARGUMENT);
        due("4 arrives(0, most)", () -> x.arrives(0, Integer.MAX_VALUE), ARGUMENT);
        due("4 nobody yet", () -> x.at(0), ARGUMENT);
        due("4 arrives(1439, 20)", () -> x.arrives(1439, 20), 20);
        due("4 arrives(0, 20)", () -> x.arrives(0, 20), 40);
        due("4 arrives(0, 1)", () -> x.arrives(0, 1), 41);
        due("4 arrives(7, 20)", () -> x.arrives(7, 20), STATE);
        due("4 nobody more", () -> x.at(41), ARGUMENT);
        due("4 arrives(7, 19)", () -> x.arrives(7, 19), 60);
        due("4 arrives(7, 1)", () -> x.arrives(7, 1), STATE);
        due("4 arrives(1440, 1), all there", () -> x.arrives(1440, 1), ARGUMENT);
        due("4 arrives(7, 21), all there", () -> x.arrives(7, 21), ARGUMENT);

        PersonSeeds y = house(5, 3);
        y.run(1);
        due("4 arrives behind a minute", () -> y.arrives(5, 1), STATE);
        due("4 arrives behind a minute, none", () -> y.arrives(5, 0), ARGUMENT);
        due("4 still nobody", () -> y.at(0), ARGUMENT);
    }

    private static void promise4Order() {
        PersonSeeds x = house(5, 3);
        x.arrives(9, 2);
        x.arrives(4, 1);
        x.arrives(9, 1);
        x.arrives(0, 2);
        x.arrives(5, 3);
        int[] comes = {0, 0, 4, 5, 5, 5, 9, 9, 9};
        for (int i = 0; i < comes.length; i++) {
            int p = i;
            due("4 person " + p + " comes", () -> x.person(p, 0), comes[p]);
        }
    }

    private static void promise5Draw() {
        // The first number of this mixing for seed 0 is known: 0xE220A8397B1DCDAF.
        int known = (int) ((0xE220A8397B1DCDAFL >>> 1) % 1000000);
        due("5 the known draw", () -> new PersonSeeds(0).draw(0, 0, 1000000), known);
        long[] seeds = {0, 1, -1, 77, Long.MIN_VALUE, Long.MAX_VALUE, 0x61C8864680B583EBL};
        int[] numbers = {1, 2, 3, 12, 90, 200, 65536, 999999, 1000000};
        for (long seed : seeds) {
            PersonSeeds x = new PersonSeeds(seed);
            for (int p : new int[] {0, 1, 30, 59}) {
                for (int k = 0; k < 8; k++) {
                    for (int m : numbers) {
                        int place = k;
                        due("5 draw(" + p + ", " + k + ", " + m + ") of " + seed,
                            () -> x.draw(p, place, m), draw(seed, p, k, m));
                    }
                }
            }
        }
        PersonSeeds x = new PersonSeeds(3);
        due("5 draw(-1, 0, 1)", () -> x.draw(-1, 0, 1), ARGUMENT);
        due("5 draw(60, 0, 1)", () -> x.draw(60, 0, 1), ARGUMENT);
        due("5 draw(0, -1, 1)", () -> x.draw(0, -1, 1), ARGUMENT);
        due("5 draw(0, 8, 1)", () -> x.draw(0, 8, 1), ARGUMENT);
        due("5 draw(0, 0, 0)", () -> x.draw(0, 0, 0), ARGUMENT);
        due("5 draw(0, 0, -1)", () -> x.draw(0, 0, -1), ARGUMENT);
        due("5 draw(0, 0, 1000001)", () -> x.draw(0, 0, 1000001), ARGUMENT);
    }

    private static void promise6Run() {
        PersonSeeds x = new PersonSeeds(5);
        due("6 run(1) without a room", () -> x.run(1), STATE);
        due("6 run(0) without a room", () -> x.run(0), ARGUMENT);
        due("6 run(501) without a room", () -> x.run(501), ARGUMENT);
        x.room(9);
        for (int n : new int[] {0, -1, 501, Integer.MIN_VALUE, Integer.MAX_VALUE}) {
            due("6 run(" + n + ")", () -> x.run(n), ARGUMENT);
        }
        due("6 no minute is over", () -> x.inThen(0, 0), ARGUMENT);
        x.arrives(0, 8);
        due("6 run(1)", () -> x.run(1), 8);
        x.run(500);
        x.run(500);
        x.run(500);
        due("6 run(500) over the 2000", () -> x.run(500), STATE);
        due("6 1501 minutes are over", () -> x.inThen(0, 1501), ARGUMENT);
        due("6 run(498)", () -> x.run(498), 0);
        due("6 run(2) over the 2000", () -> x.run(2), STATE);
        due("6 run(1), the last", () -> x.run(1), 0);
        due("6 run(1) over the 2000", () -> x.run(1), STATE);
        due("6 run(501) over the 2000", () -> x.run(501), ARGUMENT);
        due("6 the last minute", () -> x.inThen(0, 1999), 0);
        due("6 the minute behind it", () -> x.inThen(0, 2000), ARGUMENT);
    }

    /** A run of many minutes and many runs of one are the same. */
    private static void promise6Whole() {
        PersonSeeds x = house(11, 3, 2, 2);
        PersonSeeds y = house(11, 3, 2, 2);
        for (PersonSeeds z : new PersonSeeds[] {x, y}) {
            z.door(0, 1, 1);
            z.door(1, 2, 1);
            z.arrives(0, 9);
            z.arrives(40, 9);
        }
        int answered = 0;
        for (int i = 0; i < 300; i++) {
            answered = x.run(1);
        }
        int last = answered;
        due("6 run(300)", () -> y.run(300), last);
        for (int i = 0; i < 18; i++) {
            int p = i;
            due("6 at(" + p + ")", () -> y.at(p), x.at(p));
            due("6 waited(" + p + ")", () -> y.waited(p), x.waited(p));
        }
    }

    private static void duePlan(PersonSeeds x, long seed, int p, int comes, int rooms) {
        String who = "7 with " + rooms + " rooms person(" + p + ", ";
        due(who + "0)", () -> x.person(p, 0), comes);
        due(who + "1)", () -> x.person(p, 1), desk(seed, p, rooms));
        due(who + "2)", () -> x.person(p, 2), eatsFrom(seed, p, comes));
        due(who + "3)", () -> x.person(p, 3), eatsUntil(seed, p, comes));
        due(who + "4)", () -> x.person(p, 4), eatsIn(seed, p, rooms));
        due(who + "5)", () -> x.person(p, 5), leaves(seed, p, comes));
    }

    private static void promise7Person() {
        long seed = -987654321L;
        PersonSeeds x = house(seed, 5);
        x.arrives(100, 2);
        duePlan(x, seed, 0, 100, 1);
        duePlan(x, seed, 1, 100, 1);
        for (int rooms = 2; rooms <= 12; rooms++) {
            x.room(5);
            duePlan(x, seed, 0, 100, rooms);
            duePlan(x, seed, 1, 100, rooms);
        }
        x.arrives(3, 1);
        duePlan(x, seed, 0, 3, 12);
        duePlan(x, seed, 1, 100, 12);
        duePlan(x, seed, 2, 100, 12);
        x.run(50);
        duePlan(x, seed, 0, 3, 12);
        duePlan(x, seed, 2, 100, 12);
        due("7 person(3, 0)", () -> x.person(3, 0), ARGUMENT);
        due("7 person(-1, 0)", () -> x.person(-1, 0), ARGUMENT);
        due("7 person(0, -1)", () -> x.person(0, -1), ARGUMENT);
        due("7 person(0, 6)", () -> x.person(0, 6), ARGUMENT);
    }

    /** Where a person of the desk 2 that eats in the entrance is behind a minute, in a row of three rooms. */
    private static int placeOnWalk(int minute, int comes, int from, int until, int leaves) {
        if (minute < comes || minute >= leaves + 2) {
            return NONE;
        }
        if (minute >= leaves) {
            return leaves + 1 - minute;
        }
        if (minute >= until) {
            return Math.min(minute - until + 1, 2);
        }
        if (minute >= from) {
            return Math.max(from + 1 - minute, 0);
        }
        return Math.min(minute - comes, 2);
    }

    private static PersonSeeds walkUntil(long seed, int minutes) {
        PersonSeeds x = house(seed, 5, 5, 1);
        x.door(1, 0, 1);
        x.door(1, 2, 1);
        x.arrives(2, 1);
        runTo(x, 0, minutes);
        return x;
    }

    /**
     * Promises 6, 8, 9, 11, 12, 13 and 16: all steps of a person that nothing holds up. Every
     * minute is asked of a new object, as one object is used for 512 calls alone.
     */
    private static void walkOfOnePerson() {
        long seed = seedWith(s -> desk(s, 0, 3) == 2 && eatsIn(s, 0, 3) == 0);
        int from = eatsFrom(seed, 0, 2);
        int until = eatsUntil(seed, 0, 2);
        int leaves = leaves(seed, 0, 2);
        int end = leaves + 10;
        PersonSeeds whole = walkUntil(seed, end);
        int[] ends = new int[3];
        for (int i = 0; i < end; i++) {
            int minute = i;
            int place = placeOnWalk(minute, 2, from, until, leaves);
            if (place != NONE) {
                ends[place]++;
            }
            due("9 was(0, " + minute + ")", () -> whole.was(0, minute), place);
            PersonSeeds x = walkUntil(seed, minute);
            due("6 run(1), minute " + minute, () -> x.run(1), place == NONE ? 0 : 1);
            due("8 at(0) behind minute " + minute, () -> x.at(0), place);
            for (int room = 0; room < 3; room++) {
                int asked = room;
                int there = place == room ? 1 : 0;
                due("11 in(" + room + ", 0) behind " + minute, () -> x.in(asked, 0), there);
                due("11 in(" + room + ", 1) behind " + minute, () -> x.in(asked, 1), ends[asked] > 0 ? 1 : 0);
                due("12 inThen(" + room + ", " + minute + ")", () -> x.inThen(asked, minute), there);
            }
        }
        due("9 was of a minute that comes", () -> whole.was(0, end), ARGUMENT);
        due("12 inThen of a minute that comes", () -> whole.inThen(0, end), ARGUMENT);
        due("11 in(0, 2)", () -> whole.in(0, 2), 0);
        due("11 in(2, 2)", () -> whole.in(2, 2), ends[2]);
        due("10 waited(0)", () -> whole.waited(0), 0);
        dueThrough(whole, 2, 2, 2, 2);
        dueThrough(walkUntil(seed, 4), 0, 1, 0, 0);
        dueThrough(walkUntil(seed, 5), 0, 1, 1, 0);
        due("16 entered(true)", () -> whole.entered(true), 1);
        due("16 entered(false)", () -> whole.entered(false), 1);
    }

    /** Twelve rooms in a row, the desk at one end and the table at the other: the most moves there can be. */
    private static void longestWalk() {
        long seed = seedWith(s -> desk(s, 0, 12) == 11 && eatsIn(s, 0, 12) == 0);
        PersonSeeds x = house(seed, 1, 1, 1, 1, 1, 1, 1, 1, 1, 1, 1, 1);
        for (int i = 0; i < 11; i++) {
            x.door(i, i + 1, 1);
        }
        x.arrives(0, 1);
        int leaves = leaves(seed, 0, 0);
        due("6 all minutes but the last", () -> {
            runTo(x, 0, leaves + 11);
            return x.at(0);
        }, 0);
        due("6 it goes out", () -> x.run(1), 0);
        for (int i = 0; i < 12; i++) {
            int step = i;
            due("9 on the way to its desk", () -> x.was(0, step), step);
            due("9 on the way to eat", () -> x.was(0, eatsFrom(seed, 0, 0) + step), Math.max(10 - step, 0));
            due("9 on the way back", () -> x.was(0, eatsUntil(seed, 0, 0) + step), Math.min(step + 1, 11));
            due("9 on the way out", () -> x.was(0, leaves + step), step < 11 ? 10 - step : NONE);
        }
        for (int i = 0; i < 11; i++) {
            int door = i;
            due("13 through(" + door + ", true)", () -> x.through(door, true), 2);
            due("13 through(" + door + ", false)", () -> x.through(door, false), 2);
        }
        due("8 at(0)", () -> x.at(0), NONE);
        due("16 entered(false)", () -> x.entered(false), 1);
    }

    private static void dueThrough(PersonSeeds x, int on0, int back0, int on1, int back1) {
        due("13 through(0, true)", () -> x.through(0, true), on0);
        due("13 through(0, false)", () -> x.through(0, false), back0);
        due("13 through(1, true)", () -> x.through(1, true), on1);
        due("13 through(1, false)", () -> x.through(1, false), back1);
    }

    /** Two ways of one length: both persons try the door of least number, though the other one is free. */
    private static void leastDoorIsTheOnlyOne() {
        long seed = seedWith(s -> desk(s, 0, 4) == 3 && desk(s, 1, 4) == 3);
        PersonSeeds x = house(seed, 9, 9, 9, 9);
        x.door(0, 2, 1);
        x.door(1, 0, 1);
        x.door(0, 2, 5);
        x.door(2, 3, 1);
        x.door(3, 1, 1);
        x.arrives(0, 2);
        x.run(2);
        due("6 the first went by door 0", () -> x.at(0), 2);
        due("6 the second waits at door 0", () -> x.at(1), 0);
        due("10 waited(1)", () -> x.waited(1), 1);
        x.run(1);
        due("6 the first is at its desk", () -> x.at(0), 3);
        due("6 the second went by door 0", () -> x.at(1), 2);
        due("13 through(0, true)", () -> x.through(0, true), 2);
        due("13 through(1, false)", () -> x.through(1, false), 0);
        due("13 through(2, true)", () -> x.through(2, true), 0);
        due("13 through(3, true)", () -> x.through(3, true), 1);
    }

    private static void doorLetsWidthThrough() {
        long seed = seedWith(s -> desk(s, 0, 2) == 1 && desk(s, 1, 2) == 1 && desk(s, 2, 2) == 1
            && desk(s, 3, 2) == 1 && desk(s, 4, 2) == 1);
        PersonSeeds x = house(seed, 9, 9);
        x.door(0, 1, 2);
        x.arrives(0, 5);
        due("6 all came in", () -> x.run(1), 5);
        x.run(3);
        int[] waited = {0, 0, 1, 1, 2};
        for (int i = 0; i < 5; i++) {
            int p = i;
            due("9 was(" + p + ", 0)", () -> x.was(p, 0), 0);
            due("9 was(" + p + ", 1)", () -> x.was(p, 1), p < 2 ? 1 : 0);
            due("9 was(" + p + ", 2)", () -> x.was(p, 2), p < 4 ? 1 : 0);
            due("9 was(" + p + ", 3)", () -> x.was(p, 3), 1);
            due("10 waited(" + p + ")", () -> x.waited(p), waited[p]);
        }
        int[] there = {0, 2, 4, 5};
        for (int i = 0; i < 4; i++) {
            int minute = i;
            due("12 inThen(0, " + minute + ")", () -> x.inThen(0, minute), 5 - there[minute]);
            due("12 inThen(1, " + minute + ")", () -> x.inThen(1, minute), there[minute]);
        }
        due("11 in(0, 1)", () -> x.in(0, 1), 5);
        due("11 in(1, 1)", () -> x.in(1, 1), 5);
        due("11 in(0, 0)", () -> x.in(0, 0), 0);
    }

    /** The first person leaves room 1 by the door through which the second one, come later, goes in. */
    private static PersonSeeds oppositeWays(long seed, int leaves, int width) {
        PersonSeeds x = house(seed, 2, 2);
        x.door(0, 1, width);
        x.arrives(0, 1);
        x.arrives(leaves - 1, 1);
        runTo(x, 0, leaves + 2);
        return x;
    }

    private static void doorCountsBothWays() {
        long seed = seedWith(s -> desk(s, 0, 2) == 1 && desk(s, 1, 2) == 1);
        int leaves = leaves(seed, 0, 0);
        PersonSeeds x = oppositeWays(seed, leaves, 1);
        due("9 the first went through", () -> x.was(0, leaves), 0);
        due("9 the second waits", () -> x.was(1, leaves), 0);
        due("10 waited(0)", () -> x.waited(0), 0);
        due("10 waited(1)", () -> x.waited(1), 1);
        due("9 the first is out", () -> x.was(0, leaves + 1), NONE);
        due("9 the second went through", () -> x.was(1, leaves + 1), 1);
        due("15 met(0, 1)", () -> x.met(0, 1), leaves);
        due("15 met(1, 0)", () -> x.met(1, 0), leaves);
        due("11 in(0, 1)", () -> x.in(0, 1), 2);
        due("11 in(0, 2)", () -> x.in(0, 2), 1);
    }

    /** Two that pass one another in a door never meet, and the room between the steps does not count. */
    private static void passingInADoor() {
        long seed = seedWith(s -> desk(s, 0, 2) == 1 && desk(s, 1, 2) == 1
            && eatsIn(s, 0, 2) == 1);
        int leaves = leaves(seed, 0, 0);
        PersonSeeds x = oppositeWays(seed, leaves, 2);
        due("9 the first went through", () -> x.was(0, leaves), 0);
        due("9 the second went through", () -> x.was(1, leaves), 1);
        due("10 waited(1)", () -> x.waited(1), 0);
        due("15 met(0, 1)", () -> x.met(0, 1), NONE);
        due("11 in(0, 1)", () -> x.in(0, 1), 1);
        due("11 in(0, 2)", () -> x.in(0, 2), 0);
        due("13 through(0, true)", () -> x.through(0, true), 2);
        due("13 through(0, false)", () -> x.through(0, false), 1);
        due("16 entered(true)", () -> x.entered(true), 2);
        due("16 entered(false)", () -> x.entered(false), 1);
        due("15 both outside is no meeting", () -> {
            x.run(500);
            return x.met(0, 1);
        }, NONE);
    }

    /** Of three persons one fits in; the third leaves before there is room for it and never comes in. */
    private static void entranceHoldsSoMany() {
        long seed = seedWith(s -> leaves(s, 2, 0) <= leaves(s, 0, 0) && leaves(s, 1, 0) > leaves(s, 0, 0));
        int first = leaves(seed, 0, 0);
        PersonSeeds x = house(seed, 1);
        x.arrives(0, 3);
        due("6 one is in", () -> x.run(1), 1);
        due("10 waited(0)", () -> x.waited(0), 0);
        due("10 waited(1)", () -> x.waited(1), 1);
        due("10 waited(2)", () -> x.waited(2), 1);
        runTo(x, 1, 600);
        due("9 the first is in", () -> x.was(0, first - 1), 0);
        due("9 the first is out", () -> x.was(0, first), NONE);
        due("9 the second is in", () -> x.was(1, first), 0);
        due("10 waited(1)", () -> x.waited(1), first);
        due("10 waited(2)", () -> x.waited(2), leaves(seed, 2, 0));
        due("8 at(2)", () -> x.at(2), NONE);
        due("11 in(0, 1)", () -> x.in(0, 1), 1);
        due("11 in(0, 2)", () -> x.in(0, 2), leaves(seed, 1, 0));
        due("15 met(0, 1)", () -> x.met(0, 1), NONE);
        due("16 entered(true)", () -> x.entered(true), 2);
        due("16 entered(false)", () -> x.entered(false), 2);
    }

    private static void roomHoldsSoMany() {
        long seed = seedWith(s -> desk(s, 0, 2) == 1 && desk(s, 1, 2) == 1 && desk(s, 2, 2) == 1);
        PersonSeeds x = house(seed, 9, 2);
        x.door(0, 1, 20);
        x.arrives(0, 3);
        x.run(20);
        due("8 at(0)", () -> x.at(0), 1);
        due("8 at(1)", () -> x.at(1), 1);
        due("8 at(2)", () -> x.at(2), 0);
        due("10 waited(2)", () -> x.waited(2), 19);
        due("11 in(1, 0)", () -> x.in(1, 0), 2);
        due("11 in(1, 1)", () -> x.in(1, 1), 2);
        due("11 in(1, 2)", () -> x.in(1, 2), 19);
        due("11 in(0, 2)", () -> x.in(0, 2), 0);
        due("13 who waits goes through no door", () -> x.through(0, true), 2);
        due("15 met(0, 2)", () -> x.met(0, 2), 0);
        due("15 met(1, 2)", () -> x.met(1, 2), 0);
    }

    /** Person 0 goes out of the full entrance, and person 1 comes into it in the same minute. */
    private static void lowerNumberMakesRoomFirst() {
        long seed = seedWith(s -> desk(s, 0, 2) == 1 && desk(s, 1, 2) == 1);
        PersonSeeds x = house(seed, 1, 5);
        x.door(0, 1, 5);
        x.arrives(0, 2);
        x.run(2);
        due("9 was(0, 1)", () -> x.was(0, 1), 1);
        due("9 was(1, 1)", () -> x.was(1, 1), 0);
        due("10 waited(1)", () -> x.waited(1), 1);
        due("15 met(0, 1)", () -> x.met(0, 1), NONE);
        x.run(1);
        due("15 met(0, 1) behind one minute more", () -> x.met(0, 1), 2);
    }

    /** Person 1 leaves room 1 in the minute in which person 0 wants to go in: a minute too late for it. */
    private static void higherNumberMakesRoomLater() {
        long seed = seedWith(s -> desk(s, 0, 2) == 0 && eatsIn(s, 0, 2) == 1
            && desk(s, 1, 2) == 1 && eatsIn(s, 1, 2) == 0
            && eatsFrom(s, 0, 0) == eatsFrom(s, 1, 0));
        int from = eatsFrom(seed, 0, 0);
        PersonSeeds x = house(seed, 5, 1);
        x.door(0, 1, 5);
        x.arrives(0, 2);
        runTo(x, 0, from + 2);
        due("9 was(1, from - 1)", () -> x.was(1, from - 1), 1);
        due("9 was(0, from)", () -> x.was(0, from), 0);
        due("9 was(1, from)", () -> x.was(1, from), 0);
        due("9 was(0, from + 1)", () -> x.was(0, from + 1), 1);
        due("10 waited(0)", () -> x.waited(0), 1);
        due("10 waited(1)", () -> x.waited(1), 0);
    }

    /** A desk without a way: in, and then neither going nor waiting until it leaves. */
    private static void noWay() {
        long seed = seedWith(s -> desk(s, 0, 3) == 2 && eatsIn(s, 0, 3) == 2);
        int leaves = leaves(seed, 0, 0);
        PersonSeeds x = house(seed, 5, 5, 5);
        x.door(0, 1, 1);
        x.arrives(0, 1);
        runTo(x, 0, leaves);
        due("14 distance(0, 2)", () -> x.distance(0, 2), NONE);
        due("8 at(0)", () -> x.at(0), 0);
        due("10 waited(0)", () -> x.waited(0), 0);
        due("13 through(0, true)", () -> x.through(0, true), 0);
        due("6 it goes out", () -> x.run(1), 0);
        due("8 at(0)", () -> x.at(0), NONE);
    }

    private static void distances() {
        PersonSeeds x = house(1, 1, 1, 1, 1, 1, 1, 1, 1, 1, 1, 1, 1);
        for (int i = 0; i < 11; i++) {
            x.door(i + 1, i, 1);
        }
        for (int i = 0; i < 12; i++) {
            for (int j = 0; j < 12; j++) {
                int room = i;
                int other = j;
                due("14 distance(" + i + ", " + j + ")", () -> x.distance(room, other), Math.abs(i - j));
            }
        }
        x.door(0, 11, 1);
        for (int i = 0; i < 12; i++) {
            for (int j = 0; j < 12; j++) {
                int room = i;
                int other = j;
                int way = Math.abs(i - j);
                due("14 in the ring distance(" + i + ", " + j + ")",
                    () -> x.distance(room, other), Math.min(way, 12 - way));
            }
        }
        PersonSeeds y = house(1, 1, 1, 1, 1, 1);
        y.door(3, 4, 1);
        y.door(0, 1, 1);
        due("14 without a way", () -> y.distance(1, 4), NONE);
        due("14 without a door", () -> y.distance(2, 0), NONE);
        due("14 of one room", () -> y.distance(2, 2), 0);
        y.door(4, 1, 1);
        due("14 by three doors", () -> y.distance(3, 0), 3);
        due("14 distance(-1, 0)", () -> y.distance(-1, 0), ARGUMENT);
        due("14 distance(0, -1)", () -> y.distance(0, -1), ARGUMENT);
        due("14 distance(5, 0)", () -> y.distance(5, 0), ARGUMENT);
        due("14 distance(0, 5)", () -> y.distance(0, 5), ARGUMENT);
        due("14 distance(5, 5)", () -> y.distance(5, 5), ARGUMENT);
    }

    private static void wrongAsking() {
        PersonSeeds x = house(8, 3, 3);
        x.door(0, 1, 1);
        x.arrives(0, 2);
        x.run(3);
        for (int n : new int[] {-1, 2, Integer.MIN_VALUE, Integer.MAX_VALUE}) {
            due("7 person(" + n + ", 0)", () -> x.person(n, 0), ARGUMENT);
            due("8 at(" + n + ")", () -> x.at(n), ARGUMENT);
            due("9 was(" + n + ", 0)", () -> x.was(n, 0), ARGUMENT);
            due("10 waited(" + n + ")", () -> x.waited(n), ARGUMENT);
            due("11 in(" + n + ", 0)", () -> x.in(n, 0), ARGUMENT);
            due("12 inThen(" + n + ", 0)", () -> x.inThen(n, 0), ARGUMENT);
            due("14 distance(" + n + ", 0)", () -> x.distance(n, 0), ARGUMENT);
            due("15 met(" + n + ", 0)", () -> x.met(n, 0), ARGUMENT);
            due("15 met(0, " + n + ")", () -> x.met(0, n), ARGUMENT);
        }
        for (int n : new int[] {-1, 1, Integer.MIN_VALUE, Integer.MAX_VALUE}) {
            due("13 through(" + n + ", true)", () -> x.through(n, true), ARGUMENT);
            due("13 through(" + n + ", false)", () -> x.through(n, false), ARGUMENT);
        }
        for (int n : new int[] {-1, 3, Integer.MIN_VALUE, Integer.MAX_VALUE}) {
            due("9 was(0, " + n + ")", () -> x.was(0, n), ARGUMENT);
            due("11 in(0, " + n + ")", () -> x.in(0, n), ARGUMENT);
            due("12 inThen(0, " + n + ")", () -> x.inThen(0, n), ARGUMENT);
        }
        due("15 met(0, 0)", () -> x.met(0, 0), ARGUMENT);
        due("15 met(1, 1)", () -> x.met(1, 1), ARGUMENT);
        due("15 met(0, 1)", () -> x.met(0, 1), 0);
    }

    /** Persons that have not come are outside, wait for nothing and met nobody. */
    private static void nothingComesBeforeItsMinute() {
        PersonSeeds x = house(8, 3);
        x.arrives(5, 1);
        x.arrives(1439, 1);
        due("8 at(0)", () -> x.at(0), NONE);
        due("9 was(0, 0)", () -> x.was(0, 0), ARGUMENT);
        x.run(5);
        due("8 at(0)", () -> x.at(0), NONE);
        due("9 was(0, 4)", () -> x.was(0, 4), NONE);
        due("10 waited(0)", () -> x.waited(0), 0);
        due("6 run(1)", () -> x.run(1), 1);
        runTo(x, 6, 1439);
        due("8 at(1)", () -> x.at(1), NONE);
        due("10 waited(1)", () -> x.waited(1), 0);
        due("6 run(1)", () -> x.run(1), 1);
        due("9 was(1, 1439)", () -> x.was(1, 1439), 0);
        due("15 met(0, 1)", () -> x.met(0, 1), NONE);
        due("16 entered(true)", () -> x.entered(true), 2);
        due("16 entered(false)", () -> x.entered(false), 1);
        runTo(x, 1440, 2000);
        due("9 was(1, 1999)", () -> x.was(1, 1999), NONE);
        due("16 entered(false)", () -> x.entered(false), 2);
    }
}
