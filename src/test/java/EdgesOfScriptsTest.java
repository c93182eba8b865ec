import java.util.Arrays;
import java.util.function.IntPredicate;
import java.util.function.ToIntFunction;

/** The boundaries in promises 21 and 22: runScript, simulate. */
public final class EdgesOfScriptsTest {
    private static final Checks checks = new Checks("EdgesOfScriptsTest");
    private static final long FACTOR = 6364136223846793005L;
    private static final long SUMMAND = 1442695040888963407L;
    private static final int MOST_R = Integer.MAX_VALUE;

    public static void main(String[] args) {
        numberOfCommands();
        numberOfDigits();
        zerosBeforeIt();
        whichFails();
        stopsAtTheFirst();
        whichRoomsAre();
        doorDigits();
        minutesOfRuns();
        fifteenMinutes();
        settingRanges();
        goodsRanges();
        frostAtMost();
        doingsAsTold();
        quarterHoursAtMost();
        warmOrNot();
        everyGroup();
        numberOfTurns();
        anySeed();
        leastAndMostR();
        doorTurns();
        goodsTurns();
        limitTurns();
        frostTurns();
        runTurns();
        leftOutTurns();
        countsOfTheTurns();
        checks.end();
    }

    private static void script(MeterRooms x, int n, long script, int want) {
        checks.due("runScript(" + n + ", " + script + ")", want, x.runScript(n, script));
    }

    private static void succeed(MeterRooms x, int... groups) {
        for (int group : groups) {
            script(x, 1, group, MeterRooms.NONE);
        }
    }

    private static void fail(MeterRooms x, int... groups) {
        for (int group : groups) {
            script(x, 1, group, 0);
        }
    }

    private static void numberOfCommands() {
        checks.of("n: number of commands, 1 to 3");
        MeterRooms x = new MeterRooms();
        for (int n : new int[] {0, -1, 4, 5, Integer.MIN_VALUE, Integer.MAX_VALUE}) {
            for (long script : new long[] {0, 30000}) {
                checks.refused("runScript(" + n + ", " + script + ")", Checks.ARGUMENT, x,
                        () -> x.runScript(n, script));
            }
        }
        script(x, 1, 30000L, -1);
        script(x, 2, 3000030000L, -1);
        script(x, 3, 300003000030000L, -1);
    }

    private static void numberOfDigits() {
        checks.of("or if script is negative or has more than 5 * n digits");
        long[] least = {100000L, 10000000000L, 1000000000000000L};
        for (int n = 1; n <= 3; n++) {
            MeterRooms x = new MeterRooms();
            int k = n;
            for (long script : new long[] {-1, -30000, least[n - 1], least[n - 1] + 1, 10 * least[n - 1],
                least[n - 1] + 30000, Long.MAX_VALUE, Long.MIN_VALUE, Integer.MIN_VALUE}) {
                checks.refused("runScript(" + k + ", " + script + ")", Checks.ARGUMENT, x,
                        () -> x.runScript(k, script));
            }
            script(x, n, least[n - 1] - 1, 0);
            script(x, n, 0, 0);
        }
        MeterRooms y = new MeterRooms();
        script(y, 3, 999990000000000L, 0);
        checks.refused("what an int would cut to 30000", Checks.ARGUMENT, y, () -> y.runScript(1, (1L << 32) + 30000));
    }

    private static void zerosBeforeIt() {
        checks.of("the first command is the highest group of the number (with zeros before it, if it has fewer digits)");
        MeterRooms x = new MeterRooms();
        script(x, 1, 30000L, -1);
        script(x, 2, 30000L, 0);
        script(x, 3, 30000L, 0);
        script(x, 3, 3000030000L, 0);
        fail(x, 3000, 300, 30, 3, 0);
    }

    private static void whichFails() {
        checks.of("Returns the index, from 0, of the first command that fails; NONE if all succeed.");
        MeterRooms x = new MeterRooms();
        script(x, 1, 99999L, 0);
        script(x, 2, 3000099999L, 1);
        script(x, 2, 9999930000L, 0);
        script(x, 3, 300003000099999L, 2);
        script(x, 3, 300009999930000L, 1);
        script(x, 3, 300009999999999L, 1);
        script(x, 3, 999993000030000L, 0);
    }

    private static void stopsAtTheFirst() {
        checks.of("Runs a script on a copy of the state.");
        MeterRooms x = Checks.withText("M");
        x.add(20, 0, 100);
        x.save(0);
        String before = Checks.picture(x);
        script(x, 3, 101002006050990L, -1);
        checks.same("nothing changes", before, Checks.picture(x));
        script(x, 3, 400003000040001L, 2);
        checks.same("nothing changes, though one fails", before, Checks.picture(x));
        checks.due("nothing is remembered of it", 0, x.undo());
        checks.due("the slot is as it was", 0, x.restore(0));
    }

    private static void whichRoomsAre() {
        checks.of("commands with rooms that do not exist fail");
        for (int rooms = 0; rooms <= 6; rooms++) {
            MeterRooms x = Scenes.store(loads(rooms));
            for (int i = 0; i <= 9; i++) {
                int want = i < rooms ? -1 : 0;
                script(x, 1, 10100 + 1000 * i, want);
                script(x, 1, 50000 + 1000 * i, want);
                script(x, 1, 60000 + 1000 * i, want);
                script(x, 1, 70007 + 1000 * i, want);
                script(x, 1, 90000 + 1000 * i, want);
                script(x, 1, 70008 + 1000 * i, 0);
            }
        }
    }

    private static int[] loads(int rooms) {
        int[] loads = new int[rooms];
        Arrays.fill(loads, 10);
        return loads;
    }

    private static void doorDigits() {
        checks.of("1 i b 0 0: door(i, b is 1). .. or a b above 1");
        MeterRooms x = Scenes.store(10, 10);
        succeed(x, 10000, 10100, 11000, 11100);
        fail(x, 10200, 10300, 10900, 10001, 10101, 10010, 10110, 10009, 10090, 12000, 12100);
        // A minute with an open door brings a frost of 2.
        script(x, 3, 101002000160010L, 2);
        script(x, 3, 101002000160020L, -1);
        script(x, 3, 100002000160000L, -1);
        x.door(0, true);
        script(x, 3, 100002000160000L, -1);
        script(x, 3, 101002000160010L, 2);
    }

    private static void minutesOfRuns() {
        checks.of("2 0 0 n n: run(nn).");
        MeterRooms x = new MeterRooms();
        succeed(x, 20001, 20002, 20009, 20010, 20059, 20060);
        fail(x, 20000, 20061, 20062, 20070, 20099, 20100, 20101, 20160, 20901, 21001, 21060, 29001);
        x.set(0, 0);
        for (int minutes = 1; minutes <= 60; minutes++) {
            int ended = minutes / 15;
            script(x, 2, (20000L + minutes) * 100000 + 80000 + ended, -1);
            if (ended > 0) {
                script(x, 2, (20000L + minutes) * 100000 + 80000 + ended - 1, 1);
            }
        }
    }

    private static void fifteenMinutes() {
        checks.of("3 0 0 0 0: run(1) fifteen times.");
        MeterRooms x = new MeterRooms();
        x.set(0, 0);
        script(x, 2, 3000080000L, 1);
        script(x, 2, 3000080001L, -1);
        x.set(1, 1);
        x.set(0, 149);
        script(x, 2, 3000080000L, -1);
        fail(x, 30001, 30010, 30100, 31000, 30009, 39000, 39999);
        // 15 minutes below its bound it is at it then, 16 below it is not, and 14 below it is cooled again.
        MeterRooms y = Scenes.store(10);
        y.set(0, 0);
        y.goods(0, 85);
        script(y, 2, 3000090001L, -1);
        y.goods(0, 84);
        script(y, 2, 3000090000L, -1);
        y.goods(0, 86);
        script(y, 2, 3000090000L, -1);
    }

    private static void settingRanges() {
        checks.of("4 s v v 0: set(s, vv). .. fail if the method would throw an exception");
        MeterRooms x = new MeterRooms();
        int[][] ends = {{0, 99}, {0, 14}, {0, 99}, {1, 50}, {1, 99}, {1, 30}};
        for (int s = 0; s <= 9; s++) {
            for (int vv = 0; vv <= 99; vv++) {
                boolean allowed = s <= 5 && vv >= ends[s][0] && vv <= ends[s][1];
                if (vv < 3 || vv > 96 || vv == ends[Math.min(s, 5)][1] || vv == ends[Math.min(s, 5)][1] + 1) {
                    script(x, 1, 40000 + 1000 * s + 10 * vv, allowed ? -1 : 0);
                    script(x, 1, 40001 + 1000 * s + 10 * vv, 0);
                }
            }
        }
    }

    private static void goodsRanges() {
        checks.of("5 i v v 0: goods(i, vv).");
        MeterRooms x = Scenes.store(10);
        succeed(x, 50000, 50010, 50100, 50980, 50990);
        fail(x, 50001, 50009, 50991, 50999);
        MeterRooms y = new MeterRooms();
        y.add(10, -5, 42);
        script(y, 2, 5042090001L, -1);
        script(y, 2, 5041090001L, 1);
        script(y, 2, 5041090000L, -1);
        script(y, 2, 5042090000L, 1);
    }

    private static void frostAtMost() {
        checks.of("6 i f f 0: succeeds if the room i has a frost of at most ff.");
        for (int frost : new int[] {0, 1, 9, 10, 11, 98, 99, 100}) {
            MeterRooms x = Scenes.frosty(10, frost);
            for (int ff : new int[] {frost - 1, frost, frost + 1, 0, 99}) {
                if (ff >= 0 && ff <= 99) {
                    script(x, 1, 60000 + 10 * ff, frost <= ff ? -1 : 0);
                    script(x, 1, 60001 + 10 * ff, 0);
                }
            }
        }
    }

    private static void doingsAsTold() {
        checks.of("7 i 0 0 w: succeeds if does(i) is w.");
        MeterRooms[] all = new MeterRooms[8];
        all[0] = Scenes.defrosted();
        all[1] = Scenes.store(20);
        all[1].goods(0, 100);
        all[2] = Scenes.frosty(20, 100);
        all[3] = Scenes.store(20);
        all[3].goods(0, 1);
        all[4] = Scenes.store(20);
        all[4].goods(0, 1);
        all[4].set(0, 0);
        all[5] = Scenes.frosty(20, 30);
        all[6] = Scenes.frosty(20, 30);
        all[6].set(0, 0);
        all[7] = Scenes.store(20);
        for (int doing = 0; doing <= 7; doing++) {
            checks.due("does(0)", doing, all[doing].does(0));
            for (int w = 0; w <= 9; w++) {
                script(all[doing], 1, 70000 + w, w == doing ? -1 : 0);
                script(all[doing], 1, 70010 + w, 0);
                script(all[doing], 1, 70100 + w, 0);
            }
        }
    }

    private static void quarterHoursAtMost() {
        checks.of("8 0 0 n n: succeeds if at most nn quarter hours passed the limit so far.");
        MeterRooms x = new MeterRooms();
        succeed(x, 80000, 80001, 80099);
        x.set(0, 0);
        x.set(1, 14);
        x.run(1);
        checks.due("one passed", 1, x.about(4));
        fail(x, 80000, 80100, 81001, 89099);
        succeed(x, 80001, 80002, 80099);
        for (int k = 0; k < 24; k++) {
            x.run(60);
        }
        x.run(30);
        checks.due("99 passed", 99, x.about(4));
        succeed(x, 80099);
        fail(x, 80098, 80198, 80199);
        x.run(15);
        fail(x, 80099, 80100);
    }

    private static void warmOrNot() {
        checks.of("9 i 0 0 b: succeeds if the room i is as warm as its bound or warmer with b as 1, "
                + "is not with b as 0. .. or a b above 1");
        MeterRooms x = Scenes.store(10);
        for (int v : new int[] {-400, 99, 100, 101, 400}) {
            x.goods(0, v);
            script(x, 1, 90001, v >= 100 ? -1 : 0);
            script(x, 1, 90000, v >= 100 ? 0 : -1);
            fail(x, 90002, 90003, 90009, 90010, 90011, 90100, 90101);
        }
    }

    /** All 100000 groups, compared with the model's answers. */
    private static void everyGroup() {
        checks.of("and so does any other group (also one with another digit where a 0 is written, or a b above 1)");
        MeterRooms x = null;
        Model m = null;
        for (int group = 0; group < 100000; group++) {
            if (group % 400 == 0) {
                x = new MeterRooms();
                m = new Model();
                for (int i = 0; i < 2; i++) {
                    x.add(20, 0, 50);
                    m.add(20, 0, 50);
                    x.goods(i, 49 + i);
                    m.goods(i, 49 + i);
                }
                x.door(0, true);
                m.door(0, true);
                x.run(20);
                m.run(20);
            }
            script(x, 1, group, (int) m.runScript(1, group));
        }
    }

    // ---- simulate: the seeds are made so that the first turns are those that are wanted

    private static void numberOfTurns() {
        checks.of("m: number of turns, 1 to 60");
        MeterRooms x = Scenes.store(10);
        for (int m : new int[] {0, -1, 61, 62, Integer.MIN_VALUE, Integer.MAX_VALUE}) {
            checks.refused("simulate(1, " + m + ")", Checks.ARGUMENT, x, () -> x.simulate(1, m));
        }
        for (int m : new int[] {1, 2, 59, 60}) {
            checks.due("simulate(7, " + m + ")", model(0, 7, m), new MeterRooms().simulate(7, m));
            checks.due("simulate(7, " + m + ") of six rooms", model(6, 7, m),
                    Scenes.store(loads(6)).simulate(7, m));
        }
    }

    private static int model(int rooms, long seed, int m) {
        Model model = new Model();
        for (int i = 0; i < rooms; i++) {
            model.add(10, 0, 100);
        }
        return (int) model.simulate(seed, m);
    }

    private static void anySeed() {
        checks.of("seed: any long");
        for (long seed : new long[] {0, 1, -1, Long.MIN_VALUE, Long.MIN_VALUE + 1, Long.MAX_VALUE, 1L << 32, 1L << 33}) {
            for (int rooms = 0; rooms <= 6; rooms++) {
                checks.due("simulate(" + seed + ", 60) of " + rooms, model(rooms, seed, 60),
                        Scenes.store(loads(rooms)).simulate(seed, 60));
            }
        }
    }

    /** The seed with which the first turn has this r, and the second one an r that is wanted. */
    private static long seed(int first, IntPredicate second) {
        for (long low = 0; low < 1000000; low++) {
            long x = ((long) first << 33) | low;
            if (second.test((int) ((x * FACTOR + SUMMAND) >>> 33))) {
                return (x - SUMMAND) * inverse();
            }
        }
        throw new IllegalStateException("no such seed");
    }

    /** FACTOR times this is 1, with overflow: each round doubles the bits that are right. */
    private static long inverse() {
        long inverse = FACTOR;
        for (int k = 0; k < 6; k++) {
            inverse *= 2 - FACTOR * inverse;
        }
        return inverse;
    }

    private static int firstR(IntPredicate wanted) {
        for (int r = 0; r < 10000000; r++) {
            if (wanted.test(r)) {
                return r;
            }
        }
        throw new IllegalStateException("no such r");
    }

    private static boolean isRun(int r, int minutes) {
        return r % 8 >= 5 && r / 8 % 15 == minutes - 1;
    }

    /** A turn that does a change, and then run(minutes), is as the methods are. */
    private static void turn(String what, MeterRooms x, int r, ToIntFunction<MeterRooms> change, int minutes) {
        int due = 1000 * -x.about(4) - x.about(7);
        int answer = x.simulate(seed(r, s -> isRun(s, minutes)), 2);
        change.applyAsInt(x);
        x.run(minutes);
        due += 1000 * x.about(4) + x.about(7);
        checks.due(what, due, answer);
    }

    private static void leastAndMostR() {
        checks.of("r = (int) (x >>> 33) is computed. q is r / 8.");
        MeterRooms x = Scenes.store(10);
        Scenes.cool(x);
        x.set(4, 2);
        turn("an r of 0: door(0, true)", x, 0, y -> y.door(0, true), 2);
        checks.due("a defrost was begun", 1, x.about(7));
        MeterRooms z = new MeterRooms();
        z.set(0, 0);
        z.set(1, 14 - (MOST_R / 8) % 15);
        checks.due("the greatest r, a run that just ends the quarter hour", 1000, z.simulate(seed(MOST_R, s -> true), 1));
        z.set(1, 13 - (MOST_R / 8) % 15);
        checks.due("the greatest r, a run a minute shorter", 0, z.simulate(seed(MOST_R, s -> true), 1));
    }

    private static void doorTurns() {
        checks.of("0 and 1: door(q % 6, q / 8 % 3 is 0).");
        for (int kind = 0; kind <= 1; kind++) {
            for (int i = 0; i < 6; i++) {
                for (int third = 0; third <= 2; third++) {
                    int k = kind;
                    int room = i;
                    int t = third;
                    int r = firstR(s -> s % 8 == k && s / 8 % 6 == room && s / 8 / 8 % 3 == t);
                    for (boolean wasOpen : new boolean[] {false, true}) {
                        MeterRooms x = Scenes.store(loads(6));
                        Scenes.cool(x);
                        x.door(i, wasOpen);
                        x.set(4, 2);
                        turn("kind " + k + ", room " + room + ", " + t, x, r, y -> y.door(room, t == 0), 2);
                        checks.due("a defrost was begun if it is open", t == 0 ? 1 : 0, x.about(7));
                    }
                }
            }
        }
    }

    private static void goodsTurns() {
        checks.of("2: goods(q % 6, q / 8 % 401 - 200).");
        for (int i = 0; i < 6; i++) {
            for (int v : new int[] {-200, -199, -1, 0, 1, 99, 100, 199, 200}) {
                int room = i;
                int r = firstR(s -> s % 8 == 2 && s / 8 % 6 == room && s / 8 / 8 % 401 - 200 == v);
                for (int bound = Math.max(v, -299); bound <= Math.min(v + 1, 200); bound++) {
                    MeterRooms x = new MeterRooms();
                    for (int k = 0; k < 6; k++) {
                        x.add(10, -300, k == i ? bound : 200);
                    }
                    x.set(0, 0);
                    x.set(2, 0);
                    x.set(1, 14);
                    turn("room " + i + ", goods " + v + ", bound " + bound, x, r, y -> y.goods(room, v), 1);
                    checks.due("it must run if it is at its bound", v >= bound ? 1 : 0, x.about(4));
                }
            }
        }
    }

    private static void limitTurns() {
        checks.of("3: set(0, q % 1000).");
        for (int limit : new int[] {0, 1, 98, 99, 100, 499, 998, 999}) {
            int r = firstR(s -> s % 8 == 3 && s / 8 % 1000 == limit);
            for (int more = 0; more <= 1; more++) {
                MeterRooms x = new MeterRooms();
                x.set(2, 99);
                int sum = 0;
                while (sum + 99 <= limit + more) {
                    x.run(1);
                    x.set(1, Math.floorMod(-x.about(1), 15));
                    sum += 99;
                }
                x.set(2, limit + more - sum);
                x.set(1, Math.floorMod(14 - x.about(1), 15));
                turn("a limit of " + limit + ", a sum of " + (limit + more), x, r, y -> y.set(0, limit), 1);
                checks.due("it passes if it is more", more, x.about(4));
            }
        }
    }

    private static void frostTurns() {
        checks.of("4: set(4, 1 + q % 100).");
        for (int least : new int[] {1, 2, 50, 99, 100}) {
            int r = firstR(s -> s % 8 == 4 && 1 + s / 8 % 100 == least);
            for (int frost : new int[] {least - 1, least}) {
                MeterRooms x = Scenes.frosty(10, frost);
                turn("a frost of " + frost + " where setting 4 is " + least, x, r, y -> y.set(4, least), 1);
                checks.due("a defrost begins if it is as much", frost == least ? 1 : 0, x.about(7));
            }
        }
    }

    private static void runTurns() {
        checks.of("Otherwise: run(1 + q % 15).");
        for (int kind = 5; kind <= 7; kind++) {
            for (int minutes = 1; minutes <= 15; minutes++) {
                int k = kind;
                int n = minutes;
                long seed = seed(firstR(s -> s % 8 == k && s / 8 % 15 == n - 1), s -> true);
                MeterRooms x = new MeterRooms();
                x.set(0, 0);
                x.set(1, 15 - minutes);
                checks.due("kind " + k + ", the last of " + n + " minutes ends it", 1000, x.simulate(seed, 1));
                if (minutes < 15) {
                    x.set(1, 14 - minutes);
                    checks.due("kind " + k + ", a minute is left behind " + n, 0, x.simulate(seed, 1));
                }
            }
        }
    }

    private static void leftOutTurns() {
        checks.of("What would throw an exception is left out.");
        for (int rooms = 0; rooms <= 5; rooms++) {
            for (int i = rooms; i < 6; i++) {
                int room = i;
                MeterRooms x = Scenes.store(loads(rooms));
                x.set(0, 0);
                x.set(4, 2);
                turn("a door of room " + i + " of " + rooms, x,
                        firstR(s -> s % 8 == 0 && s / 8 % 6 == room && s / 8 / 8 % 3 == 0), y -> 0, 15);
                turn("goods for room " + i + " of " + rooms, x,
                        firstR(s -> s % 8 == 2 && s / 8 % 6 == room && s / 8 / 8 % 401 - 200 >= 100), y -> 0, 15);
                checks.due("the quarter hours of others alone", 2, x.about(4));
            }
        }
    }

    private static void countsOfTheTurns() {
        checks.of("Returns 1000 * (the quarter hours that passed the limit in the turns) + "
                + "(the defrosts begun in the turns).");
        MeterRooms x = Scenes.frosty(10, 40);
        x.run(1);
        x.set(0, 0);
        x.run(14);
        checks.due("one was begun before", 1, x.about(7));
        checks.due("one passed before", 1, x.about(4));
        String before = Checks.picture(x);
        long fifteen = seed(firstR(s -> isRun(s, 15)), s -> isRun(s, 15));
        checks.due("15 minutes", 1000, x.simulate(fifteen, 1));
        checks.due("30 minutes", 2000, x.simulate(fifteen, 2));
        checks.same("nothing changes", before, Checks.picture(x));
    }
}
