/** The boundaries in A MINUTE, and in promises 6 to 8 as far as they are of it. */
public final class EdgesOfMinuteTest {
    private static final Checks checks = new Checks("EdgesOfMinuteTest");

    public static void main(String[] args) {
        defrostedGoesFirst();
        defrostedRunsItsHeater();
        mustRunAtItsBound();
        mustRunWithAllFrost();
        mustBeDefrostedAtAll();
        mustBeDefrostedAboveTheWish();
        mustsDoNotNeedToFit();
        mustsAreTakenFirst();
        runsAboveTheWish();
        greatestDifferenceFirst();
        lowestOfEqualDifferences();
        waitsOtherwise();
        frostOfTheSetting();
        endsOfTheFrostForADefrost();
        neitherRunsNorWaits();
        mostFrostFirst();
        lowestOfEqualFrosts();
        heaterFits();
        heatersTogether();
        nothingOfThese();
        coolingByFrost();
        warmingByKind();
        mostTemperature();
        leastTemperature();
        frostBeforeItChanges();
        lessFrost();
        moreFrost();
        mostFrost();
        defrostEndsByMinutes();
        defrostEndsByFrost();
        lengthIsThatOfTheBeginning();
        beginsAgain();
        countsPerRoom();
        warmBehindTheMinute();
        minutesRun();
        checks.end();
    }

    /** One doing for each room. */
    private static void doing(String what, MeterRooms x, int... want) {
        for (int i = 0; i < want.length; i++) {
            checks.due(what + ", does(" + i + ")", want[i], x.does(i));
        }
    }

    private static void defrostedGoesFirst() {
        checks.of("first each room that is defrosted: its heater runs");
        MeterRooms x = Scenes.defrosted();
        checks.due("the minutes left", 5, x.room(0, 6));
        for (int v : new int[] {-400, 0, 1, 99, 100, 101, 400}) {
            x.goods(0, v);
            doing("at " + v, x, 0);
        }
        x.set(4, 100);
        doing("with less frost than setting 4", x, 0);
        x.set(0, 0);
        doing("with a limit of 0", x, 0);
        MeterRooms y = Scenes.frosty(20, 99);
        y.set(4, 99);
        y.run(5);
        checks.due("a minute is left", 1, y.room(0, 6));
        doing("in its last minute", y, 0);
        y.run(1);
        doing("behind its last minute", y, 7);
    }

    private static void defrostedRunsItsHeater() {
        checks.of("its heater runs, with setting 3 kilowatts");
        MeterRooms x = Scenes.defrosted();
        x.set(2, 0);
        x.goods(0, 100);
        x.set(3, 1);
        checks.due("a heater of 1, not the compressor of 20", 1, x.run(1));
        x.set(3, 50);
        checks.due("a heater of 50", 50, x.run(1));
    }

    private static void mustRunAtItsBound() {
        checks.of("Then each other room whose temperature is its bound or more must run");
        int[][] rooms = {{-300, -299}, {-10, -1}, {-1, 0}, {0, 1}, {199, 200}, {-300, 200}};
        for (int[] r : rooms) {
            MeterRooms x = new MeterRooms();
            x.add(20, r[0], r[1]);
            x.set(0, 0);
            x.goods(0, r[1] - 1);
            doing("a tenth below " + r[1], x, r[1] - 1 > r[0] ? 4 : 7);
            x.goods(0, r[1]);
            doing("at " + r[1], x, 1);
            x.goods(0, r[1] + 1);
            doing("a tenth above " + r[1], x, 1);
            x.goods(0, 400);
            doing("at 400", x, 1);
        }
    }

    private static void mustRunWithAllFrost() {
        checks.of("Then each other room with a frost of 100 must be defrosted");
        MeterRooms x = Scenes.frosty(20, 100);
        x.goods(0, 100);
        doing("one at its bound must run instead", x, 1);
        x.goods(0, 99);
        doing("one a tenth below it must be defrosted", x, 2);
    }

    private static void mustBeDefrostedAtAll() {
        checks.of("each other room with a frost of 100 must be defrosted");
        for (int frost : new int[] {98, 99, 100}) {
            MeterRooms x = Scenes.frosty(20, frost);
            checks.due("the frost", frost, x.room(0, 5));
            x.set(4, 100);
            x.set(0, 9999);
            doing("a frost of " + frost, x, frost == 100 ? 2 : 7);
            x.set(0, 0);
            doing("a frost of " + frost + ", limit 0", x, frost == 100 ? 2 : 7);
            x.set(4, 99);
            doing("a frost of " + frost + " where 99 is enough", x, frost == 100 ? 2 : frost == 99 ? 6 : 7);
        }
    }

    private static void mustBeDefrostedAboveTheWish() {
        checks.of("a defrost begins, and its heater runs in this minute already. All these run");
        MeterRooms x = Scenes.frosty(20, 100);
        x.goods(0, 50);
        doing("above its wish it must be defrosted, too", x, 2);
        x.set(2, 0);
        checks.due("the heater alone", 12, x.run(1));
        checks.due("6 warmer", 56, x.room(0, 3));
        checks.due("10 less frost", 90, x.room(0, 5));
        checks.due("5 minutes left", 5, x.room(0, 6));
        checks.due("a defrost was begun", 1, x.about(7));
        checks.due("no compressor ran", 0, x.room(0, 7));
        doing("then it is defrosted already", x, 0);
        MeterRooms y = Scenes.frosty(20, 99);
        y.goods(0, 50);
        y.set(0, 9999);
        doing("with a frost of 99 its compressor runs", y, 3);
    }

    private static void mustsDoNotNeedToFit() {
        checks.of("All these run whether they fit or not.");
        MeterRooms x = Scenes.store(20, 50, 30);
        Scenes.frost(x, 2, 50);
        x.set(4, 50);
        x.run(1);
        x.set(4, 100);
        x.goods(2, -400);
        Scenes.cool(x);
        checks.due("room 2 is defrosted", 5, x.room(2, 6));
        x.goods(0, 100);
        x.set(0, 0);
        x.set(2, 0);
        doing("one that is defrosted, one that must run", x, 1, 7, 0);
        checks.due("both are taken", 12 + 20, x.run(1));
        MeterRooms y = Scenes.frosty(20, 100);
        y.set(0, 0);
        y.set(2, 99);
        doing("one that must be defrosted", y, 2);
        checks.due("it is taken", 12 + 99, y.run(1));
    }

    private static void mustsAreTakenFirst() {
        checks.of("Then those of the other rooms");
        MeterRooms x = Scenes.store(20, 30);
        x.goods(0, 99);
        x.goods(1, 100);
        x.set(0, 60 * 15);
        doing("all that must is taken first, 60 fit", x, 3, 1);
        x.set(0, 60 * 15 - 1);
        doing("all that must is taken first, they do not", x, 4, 1);
    }

    private static void runsAboveTheWish() {
        checks.of("if the temperature is greater than the wish, the compressor runs if its load fits");
        for (int wish : new int[] {-300, -1, 0, 1, 198}) {
            MeterRooms x = new MeterRooms();
            x.add(20, wish, 200);
            x.goods(0, wish - 1);
            doing("a tenth below " + wish, x, 7);
            x.goods(0, wish);
            doing("at " + wish, x, 7);
            x.goods(0, wish + 1);
            doing("a tenth above " + wish, x, 3);
            x.set(0, 0);
            doing("a tenth above " + wish + ", limit 0", x, 4);
            x.goods(0, wish);
            doing("at " + wish + ", limit 0", x, 7);
        }
    }

    private static void greatestDifferenceFirst() {
        checks.of("in the order of (their temperature less their wish), the greatest first");
        MeterRooms x = new MeterRooms();
        x.add(20, -300, 200);
        x.add(20, 100, 200);
        x.add(20, -50, 200);
        x.set(0, 450);
        x.goods(0, -250);
        x.goods(1, 149);
        x.goods(2, -1);
        doing("50, 49 and 49 above the wishes", x, 3, 4, 4);
        x.goods(1, 151);
        doing("50, 51 and 49 above the wishes", x, 4, 3, 4);
        x.goods(2, 2);
        doing("50, 51 and 52 above the wishes", x, 4, 4, 3);
        x.goods(0, 199);
        doing("499, 51 and 52 above the wishes", x, 3, 4, 4);
        x.set(0, 750);
        doing("of three two fit", x, 3, 4, 3);
    }

    private static void lowestOfEqualDifferences() {
        checks.of("of several the lowest: if the temperature is greater than the wish");
        for (int first = 0; first < 6; first++) {
            MeterRooms x = new MeterRooms();
            for (int i = 0; i < 6; i++) {
                x.add(20, 10 * i - 100, 200);
                x.goods(i, 10 * i - 100 + (i < first ? 6 : 7));
            }
            x.set(0, 450);
            for (int i = 0; i < 6; i++) {
                checks.due("equal from room " + first + ", does(" + i + ")", i == first ? 3 : 4, x.does(i));
            }
        }
    }

    private static void waitsOtherwise() {
        checks.of("and waits otherwise");
        MeterRooms x = Scenes.store(20);
        x.goods(0, 50);
        x.set(0, 449);
        x.run(1);
        checks.due("one waited", 1, x.about(8));
        checks.due("it became warmer", 51, x.room(0, 3));
        checks.due("nothing is taken for it", 10, x.about(6));
        x.set(0, 430);
        x.run(1);
        checks.due("10 + 30 * 14 fit in 430: none waited", 1, x.about(8));
    }

    private static void frostOfTheSetting() {
        checks.of("those of the other rooms with a frost of setting 4 or more");
        for (int frost : new int[] {1, 2, 29, 30, 31, 98, 99}) {
            MeterRooms x = Scenes.frosty(20, frost);
            checks.due("the frost", frost, x.room(0, 5));
            x.set(4, frost);
            doing("a frost of setting 4, " + frost, x, 5);
            x.set(4, frost + 1);
            doing("a frost of one less than setting 4, " + frost, x, 7);
            if (frost > 1) {
                x.set(4, frost - 1);
                doing("a frost of one more than setting 4, " + frost, x, 5);
            }
        }
    }

    private static void endsOfTheFrostForADefrost() {
        checks.of("4: the frost for a defrost, 1 to 100");
        MeterRooms x = Scenes.store(20);
        x.set(4, 1);
        x.goods(0, -400);
        doing("no frost is never enough", x, 7);
        MeterRooms y = Scenes.frosty(20, 1);
        y.set(4, 1);
        doing("a frost of 1 is for 1", y, 5);
        MeterRooms z = Scenes.frosty(20, 99);
        z.set(4, 100);
        doing("a frost of 99 is not for 100", z, 7);
        MeterRooms w = Scenes.frosty(20, 100);
        w.set(4, 100);
        doing("one of 100 must be defrosted, even if it would fit", w, 2);
    }

    private static void neitherRunsNorWaits() {
        checks.of("with a frost of setting 4 or more that neither run nor wait");
        MeterRooms x = Scenes.frosty(20, 40);
        x.goods(0, 0);
        doing("at its wish", x, 5);
        x.goods(0, 1);
        doing("a tenth above it runs", x, 3);
        x.set(0, 449);
        doing("or waits, though the heater would fit", x, 4);
        x.run(1);
        checks.due("none is put off", 0, x.about(9));
        checks.due("one waited", 1, x.about(8));
        checks.due("none is begun", 0, x.about(7));
    }

    private static void mostFrostFirst() {
        checks.of("the one with most frost first");
        MeterRooms x = Scenes.store(20, 20, 20);
        Scenes.frost(x, 0, 41);
        Scenes.frost(x, 1, 42);
        Scenes.frost(x, 2, 40);
        x.set(4, 40);
        x.set(0, 22 * 15);
        doing("one fits", x, 6, 5, 6);
        x.set(0, 34 * 15);
        doing("two fit", x, 5, 5, 6);
        x.set(0, 46 * 15);
        doing("three fit", x, 5, 5, 5);
        x.set(0, 46 * 15 - 1);
        doing("three do not", x, 5, 5, 6);
    }

    private static void lowestOfEqualFrosts() {
        checks.of("of several the lowest: a defrost begins if the heater's load fits");
        for (int first = 0; first < 6; first++) {
            MeterRooms x = Scenes.store(9, 9, 9, 9, 9, 9);
            for (int i = 0; i < 6; i++) {
                Scenes.frost(x, i, i < first ? 40 : 41);
            }
            x.set(0, 22 * 15);
            for (int i = 0; i < 6; i++) {
                checks.due("equal from room " + first + ", does(" + i + ")", i == first ? 5 : 6, x.does(i));
            }
        }
    }

    private static void heaterFits() {
        checks.of("a defrost begins if the heater's load fits, .. otherwise it is put off");
        for (int heater : new int[] {1, 12, 50}) {
            MeterRooms x = Scenes.frosty(20, 40);
            x.set(3, heater);
            x.set(0, (heater + 10) * 15);
            doing("a heater of " + heater + " just fits", x, 5);
            x.set(0, (heater + 10) * 15 - 1);
            doing("a heater of " + heater + " does not", x, 6);
            x.run(1);
            checks.due("put off", 1, x.about(9));
            checks.due("not begun", 0, x.about(7));
            checks.due("no minutes left", 0, x.room(0, 6));
            checks.due("the frost stays", 40, x.room(0, 5));
            checks.due("one warmer", -399, x.room(0, 3));
        }
    }

    private static void heatersTogether() {
        checks.of("and its heater runs in this minute already; otherwise it is put off");
        MeterRooms x = Scenes.store(20, 5, 20);
        Scenes.frost(x, 0, 40);
        Scenes.frost(x, 2, 30);
        x.goods(1, 50);
        x.set(0, 39 * 15);
        doing("a compressor and two heaters fit", x, 5, 3, 5);
        checks.due("all are taken", 39, x.run(1));
        x.undo();
        x.set(0, 39 * 15 - 1);
        doing("they do not", x, 5, 3, 6);
        checks.due("those that run are taken", 27, x.run(1));
    }

    private static void nothingOfThese() {
        checks.of("7: nothing of these");
        MeterRooms x = Scenes.store(20);
        doing("at its wish, without frost", x, 7);
        checks.due("nothing is taken for it", 10, x.run(1));
        checks.due("it is not counted as a wait", 0, x.about(8));
        checks.due("it is not counted as put off", 0, x.about(9));
        checks.due("its compressor did not run", 0, x.room(0, 7));
    }

    private static void coolingByFrost() {
        checks.of("becomes colder by 8, less its frost divided by 20, rounded down");
        for (int frost = 0; frost <= 100; frost++) {
            MeterRooms x = Scenes.frosty(20, frost);
            checks.due("the frost", frost, x.room(0, 5));
            x.goods(0, 200);
            x.run(1);
            int colder = frost == 100 ? 3 : frost >= 80 ? 4 : frost >= 60 ? 5 : frost >= 40 ? 6 : frost >= 20 ? 7 : 8;
            checks.due("must run, frost " + frost, 200 - colder, x.room(0, 3));
            x.undo();
            x.door(0, true);
            x.run(1);
            checks.due("must run with an open door, frost " + frost, 204 - colder, x.room(0, 3));
            x.undo();
            x.door(0, false);
            x.goods(0, 50);
            x.run(1);
            checks.due("runs, frost " + frost, frost == 100 ? 56 : 50 - colder, x.room(0, 3));
        }
    }

    private static void warmingByKind() {
        checks.of("one that is defrosted becomes warmer by 6, each other one by 1; with an open door "
                + "it becomes warmer by 4 besides");
        for (int open = 0; open <= 1; open++) {
            MeterRooms x = Scenes.defrosted();
            MeterRooms y = Scenes.store(20);
            x.door(0, open == 1);
            y.door(0, open == 1);
            x.goods(0, -1);
            x.run(1);
            checks.due("defrosted", 5 + 4 * open, x.room(0, 3));
            y.goods(0, 0);
            y.run(1);
            checks.due("nothing", 1 + 4 * open, y.room(0, 3));
            y.set(0, 0);
            y.goods(0, 1);
            y.run(1);
            checks.due("waiting", 2 + 4 * open, y.room(0, 3));
        }
    }

    private static void mostTemperature() {
        checks.of("It stays from .. to 400.");
        int[][] shut = {{393, 399}, {394, 400}, {395, 400}, {400, 400}};
        int[][] open = {{389, 399}, {390, 400}, {391, 400}, {400, 400}};
        for (int k = 0; k < 4; k++) {
            MeterRooms x = Scenes.defrosted();
            x.goods(0, shut[k][0]);
            x.run(1);
            checks.due("defrosted, shut, from " + shut[k][0], shut[k][1], x.room(0, 3));
            x.goods(0, open[k][0]);
            x.door(0, true);
            x.run(1);
            checks.due("defrosted, open, from " + open[k][0], open[k][1], x.room(0, 3));
        }
        for (int v = 398; v <= 400; v++) {
            MeterRooms x = Scenes.frosty(20, 100);
            x.door(0, true);
            x.goods(0, v);
            doing("it must run", x, 1);
            x.run(1);
            checks.due("3 colder and 4 warmer, from " + v, Math.min(400, v + 1), x.room(0, 3));
        }
        MeterRooms y = Scenes.frosty(20, 99);
        y.door(0, true);
        y.goods(0, 400);
        y.run(1);
        checks.due("4 colder and 4 warmer", 400, y.room(0, 3));
    }

    private static void leastTemperature() {
        checks.of("It stays from -400 to ..");
        MeterRooms x = Scenes.store(20);
        x.goods(0, -400);
        x.run(1);
        checks.due("1 warmer", -399, x.room(0, 3));
        x.goods(0, -400);
        x.door(0, true);
        x.run(1);
        checks.due("5 warmer", -395, x.room(0, 3));
        MeterRooms y = new MeterRooms();
        y.add(1, -300, 200);
        y.goods(0, -299);
        y.run(1);
        checks.due("as cold as a compressor makes it", -307, y.room(0, 3));
        y.run(7);
        checks.due("back to its wish", -300, y.room(0, 3));
    }

    private static void frostBeforeItChanges() {
        checks.of("5. Temperatures: .. 6. Frost: ..");
        MeterRooms x = Scenes.frosty(20, 19);
        x.goods(0, 200);
        x.run(1);
        checks.due("colder by the frost of 19 that it had", 192, x.room(0, 3));
        checks.due("its frost then", 20, x.room(0, 5));
        x.run(1);
        checks.due("colder by the frost of 20 that it had", 185, x.room(0, 3));
    }

    private static void lessFrost() {
        checks.of("a room that is defrosted has 10 less of it, but not less than 0");
        for (int frost = 1; frost <= 31; frost++) {
            for (boolean open : new boolean[] {false, true}) {
                MeterRooms x = Scenes.frosty(20, frost);
                x.set(4, 1);
                x.door(0, open);
                x.run(1);
                checks.due("a frost of " + frost + ", open " + open, Math.max(0, frost - 10), x.room(0, 5));
            }
        }
        MeterRooms y = Scenes.frosty(20, 100);
        y.door(0, true);
        y.run(1);
        checks.due("a frost of 100", 90, y.room(0, 5));
    }

    private static void moreFrost() {
        checks.of("one whose compressor runs has 1 more, and one with an open door (whether it runs or not) has 2 more");
        int[][] cases = {{200, 0, 1}, {200, 1, 3}, {50, 0, 1}, {50, 1, 3}, {-50, 0, 0}, {-50, 1, 2}};
        for (int[] c : cases) {
            for (int frost : new int[] {0, 5}) {
                MeterRooms x = Scenes.frosty(20, frost);
                x.goods(0, c[0]);
                x.door(0, c[1] == 1);
                x.run(1);
                checks.due("at " + c[0] + ", open " + c[1] + ", frost " + frost, frost + c[2], x.room(0, 5));
            }
        }
        MeterRooms y = Scenes.store(20);
        y.set(0, 0);
        y.goods(0, 50);
        y.run(1);
        checks.due("waiting, shut", 0, y.room(0, 5));
        y.door(0, true);
        y.run(1);
        checks.due("waiting, open", 2, y.room(0, 5));
    }

    private static void mostFrost() {
        checks.of("each 100 at most");
        for (int frost = 96; frost <= 100; frost++) {
            for (int open = 0; open <= 1; open++) {
                MeterRooms x = Scenes.frosty(20, frost);
                x.door(0, open == 1);
                x.goods(0, 200);
                x.run(1);
                checks.due("must run, open " + open + ", frost " + frost, Math.min(100, frost + 1 + 2 * open),
                        x.room(0, 5));
                MeterRooms y = Scenes.frosty(20, frost);
                y.set(4, 100);
                y.door(0, open == 1);
                y.run(1);
                checks.due("cold, open " + open + ", frost " + frost,
                        frost == 100 ? 90 : Math.min(100, frost + 2 * open), y.room(0, 5));
            }
        }
    }

    private static void defrostEndsByMinutes() {
        checks.of("A defrost lasts setting 5 minutes at most, that in which it begins included.");
        for (int most = 1; most <= 30; most++) {
            MeterRooms x = Scenes.frosty(20, 99);
            x.set(5, most);
            x.set(4, 99);
            doing("it begins", x, 5);
            int lasted = 0;
            do {
                x.run(1);
                lasted++;
                checks.due("setting 5 is " + most + ", minutes left behind " + lasted,
                        lasted < Math.min(most, 10) ? most - lasted : 0, x.room(0, 6));
            } while (x.room(0, 6) > 0 && lasted < 40);
            checks.due("setting 5 is " + most + ", it lasted", Math.min(most, 10), lasted);
            checks.due("the frost then", Math.max(0, 99 - 10 * most), x.room(0, 5));
            doing("nothing follows", x, 7);
            checks.due("one was begun", 1, x.about(7));
        }
    }

    private static void defrostEndsByFrost() {
        checks.of("when no minute is left, or it has no frost, the defrost ends");
        for (int frost = 1; frost <= 61; frost++) {
            MeterRooms x = Scenes.frosty(20, frost);
            x.set(4, frost);
            int lasted = 0;
            do {
                x.run(1);
                lasted++;
            } while (x.room(0, 6) > 0 && lasted < 40);
            checks.due("a frost of " + frost, Math.min(6, (frost + 9) / 10), lasted);
            checks.due("its frost then", Math.max(0, frost - 60), x.room(0, 5));
        }
    }

    private static void lengthIsThatOfTheBeginning() {
        checks.of("5: the minutes of a defrost, 1 to 30");
        MeterRooms x = Scenes.defrosted();
        x.set(5, 1);
        checks.due("a change leaves one that has begun", 5, x.room(0, 6));
        x.run(1);
        checks.due("a minute less", 4, x.room(0, 6));
        x.set(5, 30);
        x.run(1);
        checks.due("a minute less", 3, x.room(0, 6));
    }

    private static void beginsAgain() {
        checks.of("when no minute is left, .. the defrost ends");
        MeterRooms x = Scenes.frosty(20, 99);
        x.set(5, 1);
        x.set(4, 79);
        x.run(2);
        checks.due("two of a minute each, with 99 and with 89", 2, x.about(7));
        checks.due("the frost then", 79, x.room(0, 5));
        doing("a third one", x, 5);
        x.run(2);
        checks.due("a fourth one is not needed", 3, x.about(7));
        checks.due("the frost then", 69, x.room(0, 5));
    }

    private static void countsPerRoom() {
        checks.of("7: the defrosts begun so far; 8: how often a compressor waited so far; "
                + "9: how often a defrost was put off so far");
        MeterRooms x = Scenes.store(9, 9, 9, 9, 9, 9);
        Scenes.frost(x, 0, 40);
        Scenes.frost(x, 1, 40);
        Scenes.frost(x, 2, 40);
        x.goods(3, 50);
        x.goods(4, 50);
        x.set(0, 0);
        x.run(1);
        checks.due("begun", 0, x.about(7));
        checks.due("waited", 2, x.about(8));
        checks.due("put off", 3, x.about(9));
        x.run(2);
        checks.due("waited, in each minute", 6, x.about(8));
        checks.due("put off, in each minute", 9, x.about(9));
        x.set(0, 9999);
        x.run(1);
        checks.due("begun", 3, x.about(7));
        checks.due("none waited", 6, x.about(8));
        checks.due("none is put off", 9, x.about(9));
        x.run(1);
        checks.due("those that go on are not begun", 3, x.about(7));
        MeterRooms y = Scenes.frosty(20, 100);
        y.run(1);
        checks.due("one that must is begun, too", 1, y.about(7));
    }

    private static void warmBehindTheMinute() {
        checks.of("10: the minutes so far, .. behind which a room was as warm as its bound or warmer");
        int[][] cases = {{97, 0}, {98, 0}, {99, 1}, {107, 0}, {108, 1}, {109, 1}, {100, 0}, {400, 1}};
        for (int[] c : cases) {
            MeterRooms x = Scenes.store(20, 20);
            x.set(0, 0);
            x.goods(0, c[0]);
            x.run(1);
            checks.due("a room at " + c[0], c[1], x.about(10));
            x.undo();
            x.goods(1, c[0]);
            x.run(1);
            checks.due("two rooms at " + c[0], 2 * c[1], x.about(10));
        }
    }

    private static void minutesRun() {
        checks.of("7: the minutes in which its compressor ran so far");
        MeterRooms x = Scenes.store(20);
        x.goods(0, 0);
        x.run(1);
        checks.due("at its wish", 0, x.room(0, 7));
        x.goods(0, 1);
        x.run(1);
        checks.due("above its wish", 1, x.room(0, 7));
        x.goods(0, 1);
        x.set(0, 0);
        x.run(1);
        checks.due("waiting", 1, x.room(0, 7));
        x.goods(0, 100);
        x.run(1);
        checks.due("it must", 2, x.room(0, 7));
        MeterRooms y = Scenes.defrosted();
        checks.due("a heater is no compressor", 0, y.room(0, 7));
    }
}
