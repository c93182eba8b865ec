/** The boundaries in promises 16 to 20: spare, warmIn, coming, leastLimit, bestShut. */
public final class EdgesOfForecastsTest {
    private static final Checks checks = new Checks("EdgesOfForecastsTest");
    private static final int MIN = Integer.MIN_VALUE;
    private static final int MAX = Integer.MAX_VALUE;

    public static void main(String[] args) {
        notEvenZero();
        sumAtTheLimit();
        greatestSpare();
        spareIsAheadOfAll();
        warmNow();
        warmInAMinute();
        warmIn240();
        warmForTheFirstTime();
        comingRanges();
        comingOfOneMinute();
        comingOf240();
        quarterHoursInThem();
        defrostsAndWaitsInThem();
        comingWithoutRooms();
        warmestOfSeveral();
        warmestLessItsBound();
        leastLimitRanges();
        leastLimitOfNothing();
        leastLimitDividedBy100();
        leastLimitOf9900();
        leastLimitWithinTheMinutes();
        leastLimitOfPassedOnes();
        leastOfSeveralLimits();
        noDoorIsOpen();
        onlyOneIsOpen();
        bestOfSeveral();
        bestLessItsBound();
        behindFifteenMinutes();
        thisDoorAlone();
        checks.end();
    }

    /** Sets the clock so that so many minutes of the quarter hour are left. */
    private static void left(MeterRooms x, int minutes) {
        x.set(1, Math.floorMod(15 - minutes - x.about(1), 15));
        checks.due("the minutes left", minutes, x.about(3));
    }

    private static void notEvenZero() {
        checks.of("Returns the greatest load, 0 to 9999, that would fit .. NONE if not even 0 would.");
        for (int minutes = 1; minutes <= 15; minutes++) {
            MeterRooms x = new MeterRooms();
            left(x, minutes);
            x.set(0, 10 * minutes);
            checks.due("just 0, minutes left " + minutes, 0, x.spare());
            x.set(0, 10 * minutes - 1);
            checks.due("not even 0, minutes left " + minutes, MeterRooms.NONE, x.spare());
            x.set(0, 11 * minutes);
            checks.due("just 1, minutes left " + minutes, 1, x.spare());
            x.set(0, 11 * minutes - 1);
            checks.due("not 1, minutes left " + minutes, 0, x.spare());
        }
        MeterRooms y = new MeterRooms();
        y.set(0, 0);
        checks.due("a limit of 0 and others", MeterRooms.NONE, y.spare());
        y.set(2, 0);
        checks.due("a limit of 0 and no others", 0, y.spare());
    }

    private static void sumAtTheLimit() {
        checks.of("NONE if not even 0 would.");
        for (int minutes = 1; minutes <= 15; minutes++) {
            MeterRooms x = new MeterRooms();
            x.run(14);
            x.set(2, 0);
            left(x, minutes);
            x.set(0, 140);
            checks.due("a sum that is the limit, minutes left " + minutes, 0, x.spare());
            x.set(0, 139);
            checks.due("a sum of one more, minutes left " + minutes, MeterRooms.NONE, x.spare());
            x.set(0, 0);
            checks.due("a limit of 0, minutes left " + minutes, MeterRooms.NONE, x.spare());
            x.set(0, 140 + minutes);
            checks.due("a kilowatt for each, minutes left " + minutes, 1, x.spare());
        }
    }

    private static void greatestSpare() {
        checks.of("the greatest load, 0 to 9999");
        MeterRooms x = new MeterRooms();
        x.set(0, 9999);
        x.set(2, 0);
        left(x, 1);
        checks.due("all in one minute", 9999, x.spare());
        x.set(0, 9998);
        checks.due("one less", 9998, x.spare());
        x.set(2, 99);
        checks.due("beside 99 others", 9899, x.spare());
        left(x, 2);
        checks.due("in two minutes", 4900, x.spare());
    }

    private static void spareIsAheadOfAll() {
        checks.of("in the next minute, ahead of all that is taken for it");
        MeterRooms x = Scenes.store(50, 50, 20);
        x.set(1, 0);
        Scenes.frost(x, 2, 40);
        x.run(1);
        x.goods(0, 400);
        x.goods(1, 50);
        checks.due("one must run", 1, x.does(0));
        checks.due("one is defrosted", 0, x.does(2));
        checks.due("(600 - 22) / 14 - 10, whatever they do", 31, x.spare());
    }

    private static void warmNow() {
        checks.of("0 if it is now");
        MeterRooms x = Scenes.store(20);
        for (int v : new int[] {100, 101, 400}) {
            x.goods(0, v);
            checks.due("at " + v, 0, x.warmIn(0));
        }
        checks.due("its temperature stays", 400, x.room(0, 3));
        x.goods(0, 99);
        checks.due("a tenth below, and it is cooled", MeterRooms.NONE, x.warmIn(0));
    }

    private static void warmInAMinute() {
        checks.of("behind how many minutes its temperature is its bound or more for the first time");
        MeterRooms x = Scenes.store(20);
        x.set(0, 0);
        x.goods(0, 99);
        checks.due("one below", 1, x.warmIn(0));
        x.goods(0, 98);
        checks.due("two below", 2, x.warmIn(0));
        x.door(0, true);
        int[][] open = {{99, 1}, {95, 1}, {94, 2}, {90, 2}, {89, 3}};
        for (int[] c : open) {
            x.goods(0, c[0]);
            checks.due("with an open door, at " + c[0], c[1], x.warmIn(0));
        }
    }

    private static void warmIn240() {
        checks.of("up to 240, .. NONE if it is not by then.");
        MeterRooms x = new MeterRooms();
        x.add(20, -300, 0);
        x.set(0, 0);
        int[][] cases = {{-239, 239}, {-240, 240}, {-241, MeterRooms.NONE}, {-242, MeterRooms.NONE}};
        for (int[] c : cases) {
            x.goods(0, c[0]);
            checks.due("at " + c[0], c[1], x.warmIn(0));
        }
    }

    private static void warmForTheFirstTime() {
        checks.of("for the first time");
        MeterRooms x = Scenes.store(20, 20);
        x.set(0, 0);
        x.goods(0, 98);
        x.goods(1, 90);
        checks.due("it is at its bound once, and cooled then", 2, x.warmIn(0));
        checks.due("the other one, later", 10, x.warmIn(1));
        x.run(2);
        checks.due("at its bound", 0, x.warmIn(0));
        x.run(1);
        checks.due("cooled to 92: again behind 8", 8, x.warmIn(0));
    }

    private static void comingRanges() {
        checks.of("Throws IllegalArgumentException if n is out of range, or what is not 0 to 4");
        for (int n : new int[] {0, -1, 241, 242, MIN, MAX}) {
            MeterRooms x = Scenes.store(20);
            for (int what = -1; what <= 5; what++) {
                int w = what;
                checks.refused("coming(" + n + ", " + w + ")", Checks.ARGUMENT, x, () -> x.coming(n, w));
            }
        }
        MeterRooms y = Scenes.store(20);
        for (int what : new int[] {-1, 5, 6, MIN, MAX}) {
            checks.refused("coming(1, " + what + ")", Checks.ARGUMENT, y, () -> y.coming(1, what));
        }
    }

    private static void comingOfOneMinute() {
        checks.of("n: 1");
        MeterRooms x = Scenes.store(20, 20);
        x.run(3);
        x.goods(0, 100);
        x.goods(1, 100);
        checks.due("units", 50, x.coming(1, 0));
        checks.due("quarter hours", 0, x.coming(1, 1));
        checks.due("defrosts", 0, x.coming(1, 2));
        checks.due("waits", 0, x.coming(1, 3));
        checks.due("the warmest", 0, x.coming(1, 4));
        x.set(0, 0);
        left(x, 1);
        checks.due("a quarter hour", 1, x.coming(1, 1));
        x.goods(1, 99);
        checks.due("a wait", 1, x.coming(1, 3));
    }

    private static void comingOf240() {
        checks.of("n: .. to 240");
        MeterRooms x = new MeterRooms();
        x.set(0, 149);
        checks.due("units", 2400, x.coming(240, 0));
        checks.due("quarter hours", 16, x.coming(240, 1));
        checks.due("quarter hours of 239 minutes", 15, x.coming(239, 1));
        x.set(1, 1);
        checks.due("quarter hours, the first one of 140 units", 15, x.coming(240, 1));
    }

    private static void quarterHoursInThem() {
        checks.of("1: the quarter hours that pass the limit in them");
        MeterRooms x = new MeterRooms();
        x.set(0, 149);
        x.run(15);
        checks.due("one passed already", 1, x.about(4));
        checks.due("in 14 minutes", 0, x.coming(14, 1));
        checks.due("in 15", 1, x.coming(15, 1));
        checks.due("in 29", 1, x.coming(29, 1));
        checks.due("in 30", 2, x.coming(30, 1));
        x.set(0, 150);
        checks.due("a sum that is the limit", 0, x.coming(30, 1));
    }

    private static void defrostsAndWaitsInThem() {
        checks.of("2: the defrosts begun in them; 3: how often a compressor waits in them");
        MeterRooms x = Scenes.frosty(20, 99);
        x.set(5, 1);
        x.set(4, 80);
        x.goods(0, -400);
        x.run(1);
        checks.due("one was begun already", 1, x.about(7));
        checks.due("the next minute begins another one", 1, x.coming(1, 2));
        checks.due("which is the last", 1, x.coming(240, 2));
        MeterRooms y = Scenes.store(20, 20);
        y.set(0, 0);
        y.goods(0, 95);
        y.goods(1, 96);
        y.run(2);
        checks.due("two waited twice already", 4, y.about(8));
        checks.due("both wait in the next minute", 2, y.coming(1, 3));
        checks.due("and in the one behind it", 4, y.coming(2, 3));
        checks.due("then one of them must run", 5, y.coming(3, 3));
        MeterRooms z = new MeterRooms();
        z.add(20, -100, 0);
        z.set(0, 0);
        z.goods(0, -103);
        checks.due("at its wish behind 3 minutes it does not wait", 0, z.coming(4, 3));
        checks.due("above it it does", 1, z.coming(5, 3));
    }

    private static void comingWithoutRooms() {
        checks.of("NONE without rooms");
        MeterRooms x = new MeterRooms();
        checks.due("without rooms", MeterRooms.NONE, x.coming(1, 4));
        checks.due("without rooms", MeterRooms.NONE, x.coming(240, 4));
        x.add(1, 0, 200);
        checks.due("with one", 0, x.coming(1, 4));
        checks.due("with one", 0, x.coming(240, 4));
    }

    private static void warmestOfSeveral() {
        checks.of("of several the lowest, NONE without rooms");
        for (int first = 0; first < 6; first++) {
            MeterRooms x = new MeterRooms();
            x.set(0, 0);
            for (int i = 0; i < 6; i++) {
                x.add(9, -300, 10 * i);
                x.goods(i, 10 * i - (i < first ? 101 : 100));
            }
            checks.due("equal from room " + first, first, x.coming(1, 4));
            checks.due("equal from room " + first, first, x.coming(90, 4));
        }
    }

    private static void warmestLessItsBound() {
        checks.of("4: the room that is warmest then, as its temperature less its bound tells");
        MeterRooms x = new MeterRooms();
        x.set(0, 0);
        x.add(9, -300, 200);
        x.add(9, -300, -100);
        x.goods(0, 100);
        x.goods(1, -199);
        checks.due("-99 + 1 is more than -100 + 1", 1, x.coming(1, 4));
        x.goods(1, -201);
        checks.due("-101 + 1 is less", 0, x.coming(1, 4));
        x.goods(1, -104);
        checks.due("room 1 is at its bound in 4 minutes", 1, x.coming(4, 4));
        x.goods(0, 191);
        checks.due("and is cooled in the next one: room 0 is 4 below then", 0, x.coming(5, 4));
        checks.due("not 5 below as ahead of it", 1, x.coming(4, 4));
    }

    private static void leastLimitRanges() {
        checks.of("Throws IllegalArgumentException if n is out of range");
        MeterRooms x = new MeterRooms();
        for (int n : new int[] {0, -1, 61, 62, MIN, MAX}) {
            checks.refused("leastLimit(" + n + ")", Checks.ARGUMENT, x, () -> x.leastLimit(n));
        }
        checks.due("leastLimit(1)", 0, x.leastLimit(1));
        checks.due("leastLimit(60)", 200, x.leastLimit(60));
    }

    private static void leastLimitOfNothing() {
        checks.of("the least setting 0 that can be divided by 100, 0 to ..");
        MeterRooms x = new MeterRooms();
        x.set(2, 0);
        checks.due("nothing is taken", 0, x.leastLimit(60));
        left(x, 1);
        checks.due("nothing is taken", 0, x.leastLimit(1));
        x.set(2, 1);
        checks.due("a unit", 100, x.leastLimit(1));
    }

    private static void leastLimitDividedBy100() {
        checks.of("that can be divided by 100");
        int[][] cases = {{99, 1, 100}, {98, 1, 100}, {50, 2, 100}, {51, 2, 200}, {20, 5, 100}, {21, 5, 200},
            {99, 2, 200}, {40, 15, 600}, {60, 15, 900}, {61, 15, 1000}, {99, 15, 1500}};
        for (int[] c : cases) {
            MeterRooms x = new MeterRooms();
            x.set(2, c[0]);
            left(x, c[1]);
            checks.due(c[1] + " minutes of " + c[0], c[2], x.leastLimit(c[1]));
            checks.due("the limit stays", 600, x.setting(0));
        }
    }

    private static void leastLimitOf9900() {
        checks.of("0 to 9900, .. NONE if there is none.");
        MeterRooms x = new MeterRooms();
        x.set(2, 99);
        for (int k = 0; k < 10; k++) {
            left(x, 15);
            x.run(10);
        }
        checks.due("the sum", 9900, x.about(2));
        left(x, 1);
        x.set(2, 0);
        checks.due("9900 units", 9900, x.leastLimit(1));
        x.set(2, 1);
        checks.due("9901 units", MeterRooms.NONE, x.leastLimit(1));
        checks.due("9901 units, among others", MeterRooms.NONE, x.leastLimit(60));
        x.set(2, 99);
        checks.due("9999 units, though a limit of 9999 would do", MeterRooms.NONE, x.leastLimit(1));
        left(x, 2);
        checks.due("it does not end", 0, x.leastLimit(1));
    }

    private static void leastLimitWithinTheMinutes() {
        checks.of("with which no quarter hour would pass the limit in n minutes");
        for (int minutes = 2; minutes <= 15; minutes++) {
            MeterRooms x = new MeterRooms();
            left(x, minutes);
            checks.due("it ends behind them", 0, x.leastLimit(minutes - 1));
            checks.due("it ends with the last of them", minutes * 10 > 100 ? 200 : 100, x.leastLimit(minutes));
        }
        // It is not above its wish until it must run, in the minute that its temperature tells.
        MeterRooms y = new MeterRooms();
        y.add(50, 99, 100);
        y.set(2, 0);
        y.goods(0, 41);
        checks.due("ahead of the 60th minute", 0, y.leastLimit(59));
        checks.due("it must run in the 60th", 100, y.leastLimit(60));
        y.goods(0, 40);
        checks.due("it must run in the 61st", 0, y.leastLimit(60));
    }

    private static void leastLimitOfPassedOnes() {
        checks.of("with which no quarter hour would pass the limit");
        MeterRooms x = new MeterRooms();
        x.set(0, 0);
        x.run(60);
        checks.due("some passed before", 4, x.about(4));
        checks.due("they do not count", 0, x.leastLimit(14));
        checks.due("nor here", 200, x.leastLimit(15));
    }

    private static void leastOfSeveralLimits() {
        checks.of("Returns the least setting 0 ..");
        // With 300 the second room runs sooner, so that a quarter hour passes which with 200 does not.
        boolean[] passes = {true, true, false, true, false, false};
        for (int k = 0; k < passes.length; k++) {
            MeterRooms x = twoWarmRooms();
            x.set(0, 100 * k);
            x.run(30);
            checks.same("with " + 100 * k + " some pass", "" + passes[k], "" + (x.about(4) > 0));
        }
        for (int limit : new int[] {0, 200, 300, 400, 600, 9999}) {
            MeterRooms x = twoWarmRooms();
            x.set(0, limit);
            checks.due("the least, with whatever limit", 200, x.leastLimit(30));
        }
    }

    private static MeterRooms twoWarmRooms() {
        MeterRooms x = new MeterRooms();
        x.add(50, 0, 40);
        x.add(40, 0, 50);
        x.goods(0, 44);
        x.goods(1, 16);
        x.set(2, 0);
        return x;
    }

    private static void noDoorIsOpen() {
        checks.of("NONE if none is open.");
        MeterRooms x = new MeterRooms();
        checks.due("without rooms", MeterRooms.NONE, x.bestShut());
        for (int i = 0; i < 6; i++) {
            x.add(9, 0, 100);
        }
        checks.due("with six that are shut", MeterRooms.NONE, x.bestShut());
        x.door(3, true);
        checks.due("with one that is open", 3, x.bestShut());
        x.door(3, false);
        checks.due("with none again", MeterRooms.NONE, x.bestShut());
    }

    private static void onlyOneIsOpen() {
        checks.of("Returns of the open doors that ..");
        for (int i = 0; i < 6; i++) {
            MeterRooms x = Scenes.store(9, 9, 9, 9, 9, 9);
            x.goods(i, 400);
            x.door(i, true);
            checks.due("the only open one, though the warmest", i, x.bestShut());
            checks.due("it stays open", 1, x.room(i, 4));
        }
    }

    private static void bestOfSeveral() {
        checks.of("of several the lowest; NONE if none is open");
        for (int first = 0; first < 6; first++) {
            MeterRooms x = new MeterRooms();
            x.set(0, 0);
            for (int i = 0; i < 6; i++) {
                x.add(9, -300, 10 * i);
                x.goods(i, 10 * i - (i < first ? 299 : 300));
                x.door(i, true);
            }
            checks.due("equal from room " + first, first, x.bestShut());
            x.door(first, false);
            checks.due("of the open ones, from room " + first, first == 5 ? 0 : first + 1, x.bestShut());
        }
    }

    private static void bestLessItsBound() {
        checks.of("whose temperature would be lowest, less its bound");
        MeterRooms x = new MeterRooms();
        x.set(0, 0);
        x.add(9, -300, 100);
        x.add(9, -300, 200);
        x.door(0, true);
        x.door(1, true);
        x.goods(0, -200);
        x.goods(1, -99);
        checks.due("-300 is less than -299", 0, x.bestShut());
        x.goods(1, -100);
        checks.due("-300 is as much", 0, x.bestShut());
        x.goods(1, -101);
        checks.due("-301 is less than -300", 1, x.bestShut());
    }

    /** Room 0, once shut, is at its bound so many minutes later, and is 8 colder a minute behind that. */
    private static MeterRooms cooledAgain(int minutes, int below) {
        MeterRooms x = Scenes.store(9, 9);
        x.set(0, 0);
        x.door(0, true);
        x.door(1, true);
        x.goods(0, 100 - minutes);
        x.goods(1, 100 - below);
        return x;
    }

    private static void behindFifteenMinutes() {
        checks.of("behind 15 minutes");
        checks.due("8 below its bound, the other one 7", 0, cooledAgain(14, 22).bestShut());
        checks.due("8 below its bound, the other one 9", 1, cooledAgain(14, 24).bestShut());
        checks.due("at its bound, the other one 1 below it", 1, cooledAgain(15, 16).bestShut());
        checks.due("7 below its bound, the other one 6", 0, cooledAgain(13, 21).bestShut());
        checks.due("1 below its bound, the other one 2", 1, cooledAgain(16, 17).bestShut());
    }

    private static void thisDoorAlone() {
        checks.of("if this door alone was shut now");
        // One compressor fits at a time, so a room is colder behind 15 minutes while the other one is not above it.
        int[][] cases = {{20, 25, -1, 4, 0}, {25, 20, 4, -1, 1}};
        for (int[] c : cases) {
            MeterRooms x = Scenes.store(20, 20);
            x.set(0, 450);
            x.set(4, 100);
            x.goods(0, c[0]);
            x.goods(1, c[1]);
            x.door(0, true);
            x.door(1, true);
            for (int i = 0; i < 2; i++) {
                x.door(i, false);
                x.run(15);
                checks.due("room " + i + ", shut alone", c[2 + i], x.room(i, 3));
                x.undo();
                x.undo();
            }
            checks.due("so it is the colder one of these", c[4], x.bestShut());
            x.door(0, false);
            x.door(1, false);
            x.run(15);
            checks.same("with both shut it would be the other one", "true",
                    "" + (x.room(c[4], 3) > x.room(1 - c[4], 3)));
        }
    }
}
