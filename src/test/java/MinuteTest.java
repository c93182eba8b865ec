/** Promises 8 and 13, which rest on the terms THE METER and A MINUTE. */
public final class MinuteTest {
    private static final Checks checks = new Checks("MinuteTest");

    public static void main(String[] args) {
        quarterHours();
        fitsByMinutesLeft();
        fitsBehindMusts();
        orderOfCompressors();
        orderOfDefrosts();
        defrostBehindCompressors();
        temperatures();
        coolingByFrost();
        temperatureEnds();
        frost();
        defrost();
        defrostEnds();
        mustBeDefrosted();
        sixRooms();
        warmMinutes();
        checks.end();
    }

    /** A store with rooms of these loads, wishes 0 and bounds 100, whose quarter hour begins now. */
    private static MeterRooms store(int... loads) {
        MeterRooms x = new MeterRooms();
        for (int load : loads) {
            x.add(load, 0, 100);
        }
        return x;
    }

    private static void doing(String what, MeterRooms x, int... want) {
        for (int i = 0; i < want.length; i++) {
            checks.due("8: " + what + ", does(" + i + ")", want[i], x.does(i));
        }
    }

    private static void quarterHours() {
        for (int ahead = 0; ahead <= 14; ahead++) {
            MeterRooms x = new MeterRooms();
            x.set(1, ahead);
            x.set(0, 0);
            for (int minute = 0; minute < 32; minute++) {
                checks.due("6: minutes left, clock " + ahead, 15 - (minute + ahead) % 15, x.about(3));
                checks.due("6: passed, clock " + ahead, (minute + ahead) / 15, x.about(4));
                x.run(1);
            }
        }
        MeterRooms x = new MeterRooms();
        x.set(0, 150);
        x.run(15);
        checks.due("13: the limit itself is not passed", 0, x.about(4));
        x.set(0, 149);
        x.run(15);
        checks.due("13: a unit more passes it", 1, x.about(4));
        x.run(30);
        checks.due("13: each quarter hour counts", 3, x.about(4));
    }

    private static void fitsByMinutesLeft() {
        MeterRooms x = store(20);
        x.goods(0, 5);
        x.set(0, 450);
        doing("(20 + 10) * 15 fits in 450", x, 3);
        x.set(0, 449);
        doing("but not in 449", x, 4);
        x.goods(0, -50);
        x.run(5);
        x.goods(0, 5);
        x.set(0, 350);
        doing("50 + (20 + 10) * 10 fits in 350", x, 3);
        x.set(0, 349);
        doing("but not in 349", x, 4);
        x.goods(0, -50);
        x.run(9);
        x.goods(0, 5);
        x.set(0, 170);
        doing("140 + (20 + 10) * 1 fits in 170", x, 3);
        x.set(0, 169);
        doing("but not in 169", x, 4);
        x.set(0, 100);
        doing("nor behind a sum above the limit", x, 4);
    }

    private static void fitsBehindMusts() {
        MeterRooms x = store(30, 20);
        x.goods(0, 100);
        x.goods(1, 99);
        x.set(0, 900);
        doing("(30 + 20 + 10) * 15 fits in 900", x, 1, 3);
        checks.due("13: what both take", 60, x.run(1));
        x.undo();
        x.set(0, 899);
        doing("but not in 899", x, 1, 4);
        checks.due("13: what the one that must takes", 40, x.run(1));
        x.undo();
        // A room behind takes ahead of the others when it must run.
        x.goods(0, 99);
        x.goods(1, 100);
        doing("a later one that must", x, 4, 1);
        x.set(0, 0);
        x.goods(0, 100);
        doing("both run without fitting", x, 1, 1);
        checks.due("13: what they take", 60, x.run(1));
    }

    private static void orderOfCompressors() {
        MeterRooms x = store(20, 20, 20);
        x.set(0, 450);
        x.goods(0, 5);
        x.goods(1, 10);
        x.goods(2, 9);
        doing("the warmest first", x, 4, 3, 4);
        x.goods(2, 10);
        doing("of several the lowest", x, 4, 3, 4);
        x.goods(0, 10);
        doing("of several the lowest", x, 3, 4, 4);
        x.goods(2, 11);
        doing("the warmest first", x, 4, 4, 3);
        x.goods(2, 0);
        doing("one at its wish does nothing", x, 3, 4, 7);
        x.goods(2, 1);
        x.set(0, 750);
        doing("two fit", x, 3, 3, 4);

        MeterRooms y = store(50, 20);
        y.goods(0, 10);
        y.goods(1, 5);
        y.set(0, 450);
        doing("one that waits leaves room for a smaller one", y, 4, 3);
        y.set(0, 900);
        doing("but none when it runs", y, 3, 4);

        // Warmth counts from the wish, not from 0 or from the bound.
        MeterRooms z = new MeterRooms();
        z.add(20, -100, 0);
        z.add(20, 0, 200);
        z.goods(0, -80);
        z.goods(1, 19);
        z.set(0, 450);
        doing("20 above the wish, and 19 above it", z, 3, 4);
        z.goods(1, 21);
        doing("20 above the wish, and 21 above it", z, 4, 3);
    }

    /** Gives a room twice as much frost as minutes go by; it is as cold as can be while they do. */
    private static void freeze(MeterRooms x, int i, int minutes) {
        for (int j = 0; j < x.about(0); j++) {
            x.door(j, j == i);
            x.goods(j, -400);
        }
        x.run(minutes);
        x.door(i, false);
    }

    private static void orderOfDefrosts() {
        MeterRooms x = store(20, 20, 20);
        x.set(4, 100);
        freeze(x, 0, 10);
        freeze(x, 1, 11);
        freeze(x, 2, 9);
        checks.due("the minutes", 30, x.about(1));
        x.set(4, 18);
        x.set(0, 330);
        doing("the most frost first", x, 6, 5, 6);
        x.set(0, 329);
        doing("one kilowatt too many", x, 6, 6, 6);
        x.set(0, 510);
        doing("two fit", x, 5, 5, 6);
        x.set(4, 19);
        doing("less frost does nothing", x, 5, 5, 7);
        x.set(4, 23);
        doing("less frost does nothing", x, 7, 7, 7);
        x.set(3, 1);
        x.set(0, 165);
        x.set(4, 18);
        doing("a heater of one kilowatt", x, 6, 5, 6);
        checks.due("13: what it takes", 11, x.run(1));
        checks.due("6: begun", 1, x.about(7));
        checks.due("6: put off", 2, x.about(9));
        checks.due("7: minutes left of the one that began", 5, x.room(1, 6));
        checks.due("7: minutes left of one that was put off", 0, x.room(0, 6));

        MeterRooms y = store(20, 20);
        y.set(4, 100);
        freeze(y, 0, 15);
        freeze(y, 1, 15);
        y.set(4, 30);
        y.set(0, 330);
        doing("of several the lowest", y, 5, 6);
    }

    private static void defrostBehindCompressors() {
        MeterRooms x = store(20, 20);
        freeze(x, 0, 15);
        x.goods(1, 1);
        x.set(0, 450);
        doing("a compressor goes ahead of a defrost", x, 6, 3);
        x.set(0, 630);
        doing("(12 + 20 + 10) * 15 fits in 630", x, 5, 3);
        x.set(0, 629);
        doing("but not in 629", x, 6, 3);
        x.set(0, 449);
        doing("one that waits leaves room for a heater", x, 5, 4);
        x.goods(0, 0);
        doing("at its wish a defrost begins", x, 5, 4);
        x.goods(0, 1);
        doing("above it the compressor waits instead", x, 4, 4);
        x.set(0, 450);
        doing("or runs", x, 3, 4);
    }

    private static void temperatures() {
        MeterRooms x = store(20, 20, 20);
        x.goods(0, -50);
        x.goods(1, -50);
        x.door(1, true);
        x.goods(2, 50);
        x.run(1);
        checks.due("7: shut", -49, x.room(0, 3));
        checks.due("7: open", -45, x.room(1, 3));
        checks.due("7: cooled", 42, x.room(2, 3));
        x.door(2, true);
        x.run(1);
        checks.due("7: cooled and open", 38, x.room(2, 3));
        x.set(0, 0);
        x.run(1);
        checks.due("7: it waits, open", 43, x.room(2, 3));
        x.door(2, false);
        x.run(1);
        checks.due("7: it waits, shut", 44, x.room(2, 3));
    }

    private static void coolingByFrost() {
        int[] frosts = {0, 18, 20, 38, 40, 58, 60, 78, 80, 98, 100};
        int[] colder = {8, 8, 7, 7, 6, 6, 5, 5, 4, 4, 3};
        for (int k = 0; k < frosts.length; k++) {
            MeterRooms x = store(20);
            x.set(4, 100);
            if (frosts[k] > 0) {
                freeze(x, 0, frosts[k] / 2);
            }
            checks.due("7: the frost", frosts[k], x.room(0, 5));
            x.goods(0, 200);
            x.run(1);
            checks.due("7: cooled with a frost of " + frosts[k], 200 - colder[k], x.room(0, 3));
            checks.due("7: the frost then", Math.min(100, frosts[k] + 1), x.room(0, 5));
        }
        MeterRooms x = store(20);
        freeze(x, 0, 9);
        x.goods(0, 200);
        x.run(2);
        checks.due("7: cooled with a frost of 18 and 19", 184, x.room(0, 3));
        x.run(1);
        checks.due("7: and with one of 20", 177, x.room(0, 3));
    }

    private static void temperatureEnds() {
        MeterRooms x = store(20);
        freeze(x, 0, 15);
        x.run(1);
        checks.due("7: it is defrosted", 5, x.room(0, 6));
        x.goods(0, 393);
        x.run(1);
        checks.due("7: 6 warmer", 399, x.room(0, 3));
        x.undo();
        x.undo();
        x.goods(0, 395);
        x.run(1);
        checks.due("7: at most 400", 400, x.room(0, 3));
        x.door(0, true);
        x.run(1);
        checks.due("7: at most 400", 400, x.room(0, 3));
        MeterRooms y = store(20);
        y.goods(0, -400);
        y.run(1);
        checks.due("7: from -400", -399, y.room(0, 3));
    }

    private static void frost() {
        MeterRooms x = store(20);
        x.set(4, 100);
        x.goods(0, -400);
        x.run(1);
        checks.due("7: no frost in a shut room", 0, x.room(0, 5));
        x.door(0, true);
        x.run(1);
        checks.due("7: 2 in an open one", 2, x.room(0, 5));
        x.goods(0, 200);
        x.run(1);
        checks.due("7: 3 in an open one that is cooled", 5, x.room(0, 5));
        x.door(0, false);
        x.run(1);
        checks.due("7: 1 in a shut one that is cooled", 6, x.room(0, 5));
        x.set(0, 0);
        x.goods(0, 50);
        x.run(1);
        checks.due("7: none in a shut one that waits", 6, x.room(0, 5));
        x.door(0, true);
        x.run(1);
        checks.due("7: 2 in an open one that waits", 8, x.room(0, 5));

        MeterRooms y = store(20);
        y.set(4, 100);
        freeze(y, 0, 49);
        y.goods(0, 200);
        y.door(0, true);
        y.run(1);
        checks.due("7: 100 at most", 100, y.room(0, 5));
        y.goods(0, 200);
        y.run(5);
        checks.due("7: 100 at most", 100, y.room(0, 5));
    }

    private static void defrost() {
        MeterRooms x = store(20);
        freeze(x, 0, 15);
        int before = x.room(0, 3);
        checks.due("the temperature", -325, before);
        checks.due("13: the heater and the rest", 22, x.run(1));
        checks.due("7: 6 warmer", before + 6, x.room(0, 3));
        checks.due("7: 10 less frost", 20, x.room(0, 5));
        checks.due("7: 5 minutes left", 5, x.room(0, 6));
        checks.due("6: defrosts begun", 1, x.about(7));
        checks.due("7: the compressor did not run", 0, x.room(0, 7));
        x.door(0, true);
        x.set(3, 50);
        x.set(0, 0);
        checks.due("13: the heater runs on without fitting", 60, x.run(1));
        checks.due("7: 10 warmer with an open door", before + 16, x.room(0, 3));
        checks.due("7: 10 less frost, with an open door too", 10, x.room(0, 5));
        checks.due("7: 4 minutes left", 4, x.room(0, 6));
        x.set(5, 30);
        checks.due("7: setting 5 is for those that begin", 4, x.room(0, 6));
        x.run(1);
        checks.due("7: without frost it ends", 0, x.room(0, 6));
        checks.due("7: no frost is left", 0, x.room(0, 5));
        checks.due("6: no more were begun", 1, x.about(7));
        doing("and nothing follows", x, 7);
    }

    private static void defrostEnds() {
        MeterRooms x = store(20);
        x.set(4, 100);
        freeze(x, 0, 45);
        x.set(4, 30);
        x.run(6);
        checks.due("7: behind 6 minutes it ends", 0, x.room(0, 6));
        checks.due("7: with this frost", 30, x.room(0, 5));
        checks.due("6: defrosts begun", 1, x.about(7));
        x.run(1);
        checks.due("6: another one begins", 2, x.about(7));
        checks.due("7: with its minutes", 5, x.room(0, 6));

        MeterRooms y = store(20);
        freeze(y, 0, 15);
        y.set(5, 1);
        y.run(1);
        checks.due("7: a minute of defrosting is the whole", 0, y.room(0, 6));
        checks.due("7: with this frost", 20, y.room(0, 5));

        int[] frosts = {2, 8, 10, 12};
        int[] then = {0, 0, 0, 2};
        for (int k = 0; k < frosts.length; k++) {
            MeterRooms z = store(20);
            freeze(z, 0, frosts[k] / 2);
            z.set(4, 1);
            z.run(1);
            checks.due("7: frost behind a minute", then[k], z.room(0, 5));
            checks.due("7: minutes left behind it", then[k] == 0 ? 0 : 5, z.room(0, 6));
            checks.due("6: it was a defrost", 1, z.about(7));
        }
    }

    private static void mustBeDefrosted() {
        MeterRooms x = store(20, 20);
        x.set(4, 100);
        freeze(x, 0, 50);
        x.goods(1, 50);
        x.set(0, 0);
        doing("it must", x, 2, 4);
        x.set(0, 630);
        x.set(1, 10);
        checks.due("the minutes left", 15, x.about(3));
        checks.due("the sum", 50, x.about(2));
        doing("50 + (12 + 20 + 10) * 15 does not fit in 630", x, 2, 4);
        x.set(0, 680);
        doing("but in 680", x, 2, 3);
        x.goods(0, 50);
        doing("it must though it is warmer than its wish", x, 2, 3);
        checks.due("13: what they take", 42, x.run(1));
        checks.due("7: 10 less frost", 90, x.room(0, 5));
        checks.due("7: 5 minutes left", 5, x.room(0, 6));
        checks.due("6: begun", 1, x.about(7));
        x.undo();
        x.goods(0, 100);
        doing("it must run, as it is as warm as its bound, and takes more", x, 1, 4);
        MeterRooms y = store(20);
        y.set(4, 100);
        freeze(y, 0, 49);
        y.set(0, 0);
        doing("less frost than 100", y, 7);
    }

    private static void sixRooms() {
        MeterRooms x = store(1, 2, 3, 4, 5, 6);
        for (int i = 0; i < 6; i++) {
            x.goods(i, 10 + i);
        }
        doing("all fit", x, 3, 3, 3, 3, 3, 3);
        x.set(0, (18 + 10) * 15);
        doing("all but room 1 and 0 fit", x, 4, 4, 3, 3, 3, 3);
        x.set(0, (19 + 10) * 15);
        doing("room 0 fits where room 1 does not", x, 3, 4, 3, 3, 3, 3);
        x.set(0, 0);
        doing("none fits", x, 4, 4, 4, 4, 4, 4);
        x.run(1);
        checks.due("6: all wait", 6, x.about(8));
        x.set(2, 0);
        for (int i = 0; i < 6; i++) {
            x.goods(i, -400);
            x.door(i, true);
        }
        x.run(15);
        doing("all defrosts are put off", x, 6, 6, 6, 6, 6, 6);
        x.run(1);
        checks.due("6: all are put off", 6, x.about(9));
        x.set(0, 9999);
        doing("all defrosts begin", x, 5, 5, 5, 5, 5, 5);
        checks.due("13: six heaters", 72, x.run(1));
        checks.due("6: all are begun", 6, x.about(7));
        checks.due("15: undo", 13, x.undo());
        checks.due("6: none is begun", 0, x.about(7));
        checks.due("15: undo", 12, x.undo());
        checks.due("15: undo", 11, x.undo());
        checks.due("6: none is put off yet", 0, x.about(9));
    }

    private static void warmMinutes() {
        MeterRooms x = store(20, 20);
        x.set(0, 0);
        x.goods(0, 98);
        x.goods(1, 99);
        x.run(1);
        checks.due("6: one is as warm as its bound", 1, x.about(10));
        x.run(1);
        checks.due("6: the other one is", 2, x.about(10));
        x.goods(0, 300);
        x.goods(1, 300);
        checks.due("6: goods alone are no minute", 2, x.about(10));
        x.run(1);
        checks.due("6: both are", 4, x.about(10));
        x.run(10);
        checks.due("6: both are, all the time", 24, x.about(10));
        checks.due("7: minutes run", 11, x.room(0, 7));
    }
}
