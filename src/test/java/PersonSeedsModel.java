import java.util.ArrayList;
import java.util.Arrays;
import java.util.List;
import java.util.Random;
import java.util.function.IntSupplier;

/** Random runs of calls, each answer beside that of a second, plain model of the document. */
public final class PersonSeedsModel {
    private static final int RUNS = 600;
    private static final int CALLS = 512;
    private static final int NONE = -1;

    public static void main(String[] args) {
        int wrong = 0;
        for (int run = 0; run < RUNS; run++) {
            wrong += wrongAnswers(run);
        }
        System.out.println(wrong == 0 ? "all answers are as due" : wrong + " runs are not as due");
        if (wrong != 0) {
            System.exit(1);
        }
    }

    /** Tells the first wrong answer of a run: behind it the two objects may differ anyway. */
    private static int wrongAnswers(int run) {
        Random dice = new Random(run);
        long seed = run % 5 == 0 ? run - 10 : dice.nextLong();
        PersonSeeds real = new PersonSeeds(seed);
        Model model = new Model(seed);
        int setUp = 20 + dice.nextInt(40);
        int longest = dice.nextBoolean() ? 12 : 90;
        for (int i = 0; i < CALLS; i++) {
            Call call = i < setUp ? setUpCall(dice) : anyCall(dice, model, longest);
            String want = answer(() -> call.ask(model));
            String got = answer(() -> call.ask(real));
            if (!got.equals(want)) {
                System.out.println("run " + run + ", call " + i + ": " + call + " answered " + got
                    + ", due is " + want);
                return 1;
            }
        }
        return 0;
    }

    private static String answer(IntSupplier call) {
        try {
            return Integer.toString(call.getAsInt());
        } catch (RuntimeException e) {
            return "throws." + e.getClass().getSimpleName();
        }
    }

    private static Call setUpCall(Random dice) {
        int kind = dice.nextInt(20);
        if (kind < 6) {
            return new Call("room", dice.nextInt(10) == 0 ? dice.nextInt(104) - 1 : 1 + dice.nextInt(6), 0, 0);
        }
        if (kind < 13) {
            return new Call("door", dice.nextInt(9) - 1, dice.nextInt(13), dice.nextInt(12) == 0
                ? dice.nextInt(24) - 1 : 1 + dice.nextInt(3));
        }
        if (kind < 18) {
            int minute = dice.nextInt(8) == 0 ? dice.nextInt(1443) - 1 : dice.nextInt(60);
            return new Call("arrives", minute, dice.nextInt(12) == 0 ? dice.nextInt(24) - 1 : 1 + dice.nextInt(8), 0);
        }
        return kind == 18 ? new Call("person", dice.nextInt(62) - 1, dice.nextInt(8) - 1, 0)
            : new Call("distance", dice.nextInt(14) - 1, dice.nextInt(14) - 1, 0);
    }

    private static Call anyCall(Random dice, Model model, int longest) {
        int p = dice.nextInt(model.comes.size() + 2) - 1;
        int other = dice.nextInt(model.comes.size() + 2) - 1;
        int room = dice.nextInt(model.cells.size() + 2) - 1;
        int minute = dice.nextInt(model.minute + 2) - 1;
        int flag = dice.nextInt(2);
        switch (dice.nextInt(16)) {
            case 0:
                return setUpCall(dice);
            case 1:
                return new Call("draw", dice.nextInt(62) - 1, dice.nextInt(10) - 1, dice.nextInt(1000003) - 1);
            case 2:
                return new Call("person", p, dice.nextInt(8) - 1, 0);
            case 3:
                return new Call("at", p, 0, 0);
            case 4:
                return new Call("was", p, minute, 0);
            case 5:
                return new Call("waited", p, 0, 0);
            case 6:
                return new Call("in", room, dice.nextInt(5) - 1, 0);
            case 7:
                return new Call("inThen", room, minute, 0);
            case 8:
                return new Call("through", dice.nextInt(model.doors.size() + 2) - 1, flag, 0);
            case 9:
                return new Call("distance", room, dice.nextInt(model.cells.size() + 2) - 1, 0);
            case 10:
            case 11:
                return new Call("met", p, other, 0);
            case 12:
                return new Call("entered", flag, 0, 0);
            default:
                return new Call("run", dice.nextInt(60) == 0 ? dice.nextInt(503) - 1 : dice.nextInt(longest), 0, 0);
        }
    }

    private record Call(String name, int a, int b, int c) {
        int ask(PersonSeeds x) {
            switch (name) {
                case "room": return x.room(a);
                case "door": return x.door(a, b, c);
                case "arrives": return x.arrives(a, b);
                case "draw": return x.draw(a, b, c);
                case "run": return x.run(a);
                case "person": return x.person(a, b);
                case "at": return x.at(a);
                case "was": return x.was(a, b);
                case "waited": return x.waited(a);
                case "in": return x.in(a, b);
                case "inThen": return x.inThen(a, b);
                case "through": return x.through(a, b == 1);
                case "distance": return x.distance(a, b);
                case "met": return x.met(a, b);
                default: return x.entered(a == 1);
            }
        }

        int ask(Model x) {
            switch (name) {
                case "room": return x.room(a);
                case "door": return x.door(a, b, c);
                case "arrives": return x.arrives(a, b);
                case "draw": return x.draw(a, b, c);
                case "run": return x.run(a);
                case "person": return x.person(a, b);
                case "at": return x.at(a);
                case "was": return x.was(a, b);
                case "waited": return x.waited(a);
                case "in": return x.in(a, b);
                case "inThen": return x.inThen(a, b);
                case "through": return x.through(a, b == 1);
                case "distance": return x.distance(a, b);
                case "met": return x.met(a, b);
                default: return x.entered(a == 1);
            }
        }
    }

    /** Keeps the place of everybody behind every minute, and counts all answers from that. */
    private static final class Model {
        final long seed;
        final List<Integer> cells = new ArrayList<>();
        final List<int[]> doors = new ArrayList<>();
        final List<Integer> comes = new ArrayList<>();
        final List<int[]> places = new ArrayList<>();
        final List<int[]> passes = new ArrayList<>();
        int[] waits = new int[60];
        int minute = 0;

        Model(long seed) {
            this.seed = seed;
        }

        static void argument(boolean fine) {
            if (!fine) {
                throw new IllegalArgumentException();
            }
        }

        static void state(boolean fine) {
            if (!fine) {
                throw new IllegalStateException();
            }
        }

        void isRoom(int n) {
            argument(n >= 0 && n < cells.size());
        }

        void isPerson(int n) {
            argument(n >= 0 && n < comes.size());
        }

        void isOver(int n) {
            argument(n >= 0 && n < minute);
        }

        int room(int size) {
            argument(size >= 1 && size <= 100);
            state(minute == 0 && cells.size() < 12);
            cells.add(size);
            return cells.size() - 1;
        }

        int door(int room, int other, int width) {
            isRoom(room);
            isRoom(other);
            argument(room != other && width >= 1 && width <= 20);
            state(minute == 0 && doors.size() < 16);
            doors.add(new int[] {room, other, width});
            return doors.size() - 1;
        }

        int arrives(int when, int n) {
            argument(when >= 0 && when <= 1439 && n >= 1 && n <= 20);
            state(minute == 0 && !cells.isEmpty() && comes.size() + n <= 60);
            for (int i = 0; i < n; i++) {
                comes.add(when);
            }
            comes.sort(null);
            return comes.size();
        }

        int draw(int p, int k, int m) {
            argument(p >= 0 && p < 60 && k >= 0 && k < 8 && m >= 1 && m <= 1000000);
            long z = seed;
            for (int i = 0; i <= 8 * p + k; i++) {
                z += 0x9E3779B97F4A7C15L;
            }
            z = (z ^ (z >>> 30)) * 0xBF58476D1CE4E5B9L;
            z = (z ^ (z >>> 27)) * 0x94D049BB133111EBL;
            z = z ^ (z >>> 31);
            return (int) ((z >>> 1) % m);
        }

        int person(int p, int what) {
            isPerson(p);
            argument(what >= 0 && what <= 5);
            int t = comes.get(p);
            int from = t + 30 + draw(p, 1, 90);
            int[] told = {t, draw(p, 0, cells.size()), from, from + 20 + draw(p, 2, 20),
                draw(p, 3, cells.size()), t + 200 + draw(p, 4, 200)};
            return told[what];
        }

        int run(int n) {
            argument(n >= 1 && n <= 500);
            state(!cells.isEmpty() && minute + n <= 2000);
            int[][] plans = new int[comes.size()][6];
            for (int p = 0; p < comes.size(); p++) {
                for (int what = 0; what < 6; what++) {
                    plans[p][what] = person(p, what);
                }
            }
            int[][] ways = new int[cells.size()][];
            for (int r = 0; r < cells.size(); r++) {
                ways[r] = distancesTo(r);
            }
            for (int i = 0; i < n; i++) {
                oneMinute(plans, ways);
            }
            int inside = 0;
            for (int p = 0; p < comes.size(); p++) {
                inside += placeBehind(p, minute - 1) == NONE ? 0 : 1;
            }
            return inside;
        }

        void oneMinute(int[][] plans, int[][] ways) {
            int[] now = new int[comes.size()];
            for (int p = 0; p < now.length; p++) {
                now[p] = placeBehind(p, minute - 1);
            }
            int[] used = new int[doors.size()];
            for (int p = 0; p < now.length; p++) {
                if (plans[p][0] <= minute) {
                    step(p, now, used, plans[p], ways);
                }
            }
            places.add(now);
            minute++;
        }

        void step(int p, int[] now, int[] used, int[] plan, int[][] ways) {
            boolean gone = minute >= plan[5];
            boolean eats = minute >= plan[2] && minute < plan[3];
            int wanted = gone ? NONE : eats ? plan[4] : plan[1];
            if (wanted == now[p]) {
                return;
            }
            int door = NONE;
            int next = 0;
            if (now[p] == 0 && gone) {
                next = NONE;
            } else if (now[p] != NONE) {
                int[] left = ways[gone ? 0 : wanted];
                for (int d = doors.size() - 1; d >= 0; d--) {
                    int side = doors.get(d)[0] == now[p] ? 1 : doors.get(d)[1] == now[p] ? 0 : NONE;
                    if (side != NONE && left[now[p]] != NONE && left[doors.get(d)[side]] < left[now[p]]) {
                        door = d;
                        next = doors.get(d)[side];
                    }
                }
                if (door == NONE) {
                    return;
                }
            }
            int aim = next;
            boolean space = aim == NONE || Arrays.stream(now).filter(r -> r == aim).count() < cells.get(aim);
            if (!space || door != NONE && used[door] >= doors.get(door)[2]) {
                waits[p]++;
                return;
            }
            if (door != NONE) {
                used[door]++;
            }
            passes.add(new int[] {door, now[p], next});
            now[p] = next;
        }

        int placeBehind(int p, int then) {
            return then < 0 ? NONE : places.get(then)[p];
        }

        int at(int p) {
            isPerson(p);
            return placeBehind(p, minute - 1);
        }

        int was(int p, int then) {
            isPerson(p);
            isOver(then);
            return placeBehind(p, then);
        }

        int waited(int p) {
            isPerson(p);
            return waits[p];
        }

        int in(int room, int what) {
            isRoom(room);
            argument(what >= 0 && what <= 2);
            int last = 0;
            int most = 0;
            int full = 0;
            for (int then = 0; then < minute; then++) {
                last = inThen(room, then);
                most = Math.max(most, last);
                full += last == cells.get(room) ? 1 : 0;
            }
            return what == 0 ? last : what == 1 ? most : full;
        }

        int inThen(int room, int then) {
            isRoom(room);
            isOver(then);
            return (int) Arrays.stream(places.get(then)).filter(r -> r == room).count();
        }

        int through(int door, boolean on) {
            argument(door >= 0 && door < doors.size());
            int into = doors.get(door)[on ? 1 : 0];
            return (int) passes.stream().filter(g -> g[0] == door && g[2] == into).count();
        }

        int[] distancesTo(int goal) {
            int[] left = new int[cells.size()];
            Arrays.fill(left, NONE);
            left[goal] = 0;
            for (int steps = 1; steps < 12; steps++) {
                for (int[] d : doors) {
                    for (int side = 0; side < 2; side++) {
                        if (left[d[side]] == steps - 1 && left[d[1 - side]] == NONE) {
                            left[d[1 - side]] = steps;
                        }
                    }
                }
            }
            return left;
        }

        int distance(int room, int other) {
            isRoom(room);
            isRoom(other);
            return distancesTo(other)[room];
        }

        int met(int p, int other) {
            isPerson(p);
            isPerson(other);
            argument(p != other);
            for (int then = 0; then < minute; then++) {
                if (places.get(then)[p] != NONE && places.get(then)[p] == places.get(then)[other]) {
                    return then;
                }
            }
            return NONE;
        }

        int entered(boolean on) {
            return (int) passes.stream().filter(g -> g[on ? 1 : 2] == NONE).count();
        }
    }
}
