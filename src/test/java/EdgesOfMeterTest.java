/** The boundaries in THE METER, and in promises 6, 13 and 14 as far as they are of it. */
public final class EdgesOfMeterTest {
    private static final Checks checks = new Checks("EdgesOfMeterTest");

    public static void main(String[] args) {
        minutesFromZero();
        endsOfQuarterHours();
        firstMinuteEnds();
        clockSetAtTheEnd();
        sumBeginsWithZero();
        otherKilowatts();
        limitIsNotPassedByItself();
        leastLimitOfAll();
        mostLimitOfAll();
        limitOfTheLastMinute();
        minutesLeft();
        fitsInEachMinute();
        fitsWithOthers();
        fitsBehindWhatIsTaken();
        fitsWithAnOddLimit();
        fitsBehindASum();
        greatestSum();
        runOfMinutes();
        checks.end();
    }

    /** A store whose clock makes the next minute one with so many minutes left. */
    private static void left(MeterRooms x, int minutes) {
        x.set(1, Math.floorMod(15 - minutes - x.about(1), 15));
        checks.due("the minutes left", minutes, x.about(3));
    }

    private static void minutesFromZero() {
        checks.of("Minutes are counted from 0.");
        MeterRooms x = new MeterRooms();
        checks.due("the minutes of a new object", 0, x.about(1));
        x.run(1);
        checks.due("behind the first", 1, x.about(1));
        x.run(60);
        checks.due("behind 61", 61, x.about(1));
    }

    private static void endsOfQuarterHours() {
        checks.of("a quarter hour ends with a minute t if t + 1 + setting 1 can be divided by 15");
        for (int ahead = 0; ahead <= 14; ahead++) {
            MeterRooms x = new MeterRooms();
            x.set(0, 0);
            x.set(1, ahead);
            for (int t = 0; t < 31; t++) {
                boolean ends = (t + 1 + ahead) % 15 == 0;
                int passed = x.about(4);
                x.run(1);
                checks.due("clock " + ahead + ", minute " + t, ends ? 1 : 0, x.about(4) - passed);
                checks.same("clock " + ahead + ", the sum is 0 behind minute " + t, "" + ends, "" + (x.about(2) == 0));
            }
        }
    }

    private static void firstMinuteEnds() {
        checks.of("1: how many minutes the clock of the meter is ahead, 0 to 14");
        MeterRooms x = new MeterRooms();
        x.set(1, 14);
        checks.due("one minute is left", 1, x.about(3));
        x.run(1);
        checks.due("it was a quarter hour", 10, x.about(5));
        checks.due("the next one has 15", 15, x.about(3));
        MeterRooms y = new MeterRooms();
        y.set(1, 0);
        y.run(14);
        checks.due("no quarter hour in 14 minutes", 0, y.about(5));
        y.run(1);
        checks.due("one in 15", 150, y.about(5));
    }

    private static void clockSetAtTheEnd() {
        checks.of("(The sum of the quarter hour stays, also if the clock is set.)");
        MeterRooms x = new MeterRooms();
        x.run(14);
        x.set(1, 1);
        checks.due("a minute more ahead, the quarter hour begins again", 15, x.about(3));
        checks.due("the sum stays", 140, x.about(2));
        x.run(14);
        checks.due("it has not ended", 0, x.about(5));
        x.set(1, 0);
        checks.due("a minute less ahead", 2, x.about(3));
        x.run(2);
        checks.due("the sum of 30 minutes", 300, x.about(5));
        checks.due("the sum then", 0, x.about(2));
        x.set(1, 14);
        checks.due("a sum of 0 stays 0", 0, x.about(2));
        checks.due("and one minute is left", 1, x.about(3));
        x.undo();
        checks.due("undone, 15 are left", 15, x.about(3));
    }

    private static void sumBeginsWithZero() {
        checks.of("the sum of a quarter hour begins with 0");
        MeterRooms x = new MeterRooms();
        checks.due("of the first one", 0, x.about(2));
        x.run(14);
        checks.due("behind 14 minutes", 140, x.about(2));
        x.run(1);
        checks.due("of the second one", 0, x.about(2));
        x.run(1);
        checks.due("behind its first minute", 10, x.about(2));
    }

    private static void otherKilowatts() {
        checks.of("the meter takes the kilowatts of all that runs in it, and setting 2 besides");
        MeterRooms x = new MeterRooms();
        x.set(2, 0);
        checks.due("nothing at all", 0, x.run(1));
        x.set(2, 99);
        checks.due("99 others", 99, x.run(1));
        checks.due("the sum", 99, x.about(2));
        MeterRooms y = Scenes.store(50, 50, 50, 50, 50, 50);
        y.set(2, 99);
        for (int i = 0; i < 6; i++) {
            y.goods(i, 400);
        }
        checks.due("the most of all", 399, y.run(1));
        checks.due("all units", 399, y.about(6));
    }

    private static void limitIsNotPassedByItself() {
        checks.of("At the end of a quarter hour with a sum greater than setting 0, it has passed the limit.");
        for (int limit : new int[] {149, 150, 151}) {
            MeterRooms x = new MeterRooms();
            x.set(0, limit);
            x.run(14);
            checks.due("a limit of " + limit + " ahead of the end", 0, x.about(4));
            x.run(1);
            checks.due("a limit of " + limit, limit < 150 ? 1 : 0, x.about(4));
        }
    }

    private static void leastLimitOfAll() {
        checks.of("0: the limit of a quarter hour, 0");
        MeterRooms x = new MeterRooms();
        x.set(0, 0);
        x.set(2, 0);
        x.set(1, 14);
        x.run(1);
        checks.due("a sum of 0 has not passed it", 0, x.about(4));
        x.run(14);
        x.set(2, 1);
        x.run(1);
        checks.due("a sum of 1 has", 1, x.about(4));
        checks.due("the greatest sum", 1, x.about(5));
    }

    /** A sum of 9900 in a quarter hour whose clock is set back again and again; one minute of it is left. */
    private static MeterRooms long9900() {
        MeterRooms x = Scenes.store(1);
        x.goods(0, -400);
        x.set(2, 99);
        x.set(0, 9999);
        for (int k = 0; k < 10; k++) {
            left(x, 15);
            x.run(10);
        }
        checks.due("the sum", 9900, x.about(2));
        left(x, 1);
        return x;
    }

    private static void mostLimitOfAll() {
        checks.of("0: the limit of a quarter hour, .. to 9999");
        MeterRooms x = long9900();
        x.run(1);
        checks.due("the sum", 9999, x.about(5));
        checks.due("9999 has not passed it", 0, x.about(4));
        MeterRooms y = long9900();
        y.goods(0, 400);
        y.run(1);
        checks.due("the sum", 10000, y.about(5));
        checks.due("10000 has", 1, y.about(4));
    }

    private static void limitOfTheLastMinute() {
        checks.of("At the end of a quarter hour with a sum greater than setting 0");
        MeterRooms x = new MeterRooms();
        x.set(0, 0);
        x.run(14);
        x.set(0, 150);
        x.run(1);
        checks.due("a limit that is higher at the end", 0, x.about(4));
        x.run(14);
        x.set(0, 149);
        x.run(1);
        checks.due("a limit that is lower at the end", 1, x.about(4));
        x.set(0, 9999);
        checks.due("one that is higher later takes nothing back", 1, x.about(4));
    }

    private static void minutesLeft() {
        checks.of("The minutes that are left, .. t included, 1 to 15.");
        for (int ahead = 0; ahead <= 14; ahead++) {
            MeterRooms x = new MeterRooms();
            x.set(1, ahead);
            int due = 15 - ahead;
            for (int t = 0; t < 32; t++) {
                checks.due("clock " + ahead + ", minute " + t, due, x.about(3));
                due = due == 1 ? 15 : due - 1;
                x.run(1);
            }
        }
    }

    private static void fitsInEachMinute() {
        checks.of("A load of k kilowatts fits .. if the sum so far, and (..) times the minutes that are left, "
                + "are not greater than setting 0.");
        for (int minutes = 1; minutes <= 15; minutes++) {
            MeterRooms x = Scenes.store(20);
            x.goods(0, 1);
            left(x, minutes);
            x.set(0, 30 * minutes);
            checks.due("just, with minutes left " + minutes, 3, x.does(0));
            x.set(0, 30 * minutes - 1);
            checks.due("a unit too little, with minutes left " + minutes, 4, x.does(0));
        }
    }

    private static void fitsWithOthers() {
        checks.of("(k, the kilowatts of all that is taken for this minute so far, and setting 2, together)");
        int[][] cases = {{1, 0, 15}, {1, 99, 1500}, {50, 0, 750}, {50, 99, 2235}};
        for (int[] c : cases) {
            MeterRooms x = Scenes.store(c[0]);
            x.goods(0, 99);
            x.set(2, c[1]);
            x.set(0, c[2]);
            checks.due("a load of " + c[0] + " and others " + c[1], 3, x.does(0));
            x.set(0, c[2] - 1);
            checks.due("a unit too little", 4, x.does(0));
        }
    }

    private static void fitsBehindWhatIsTaken() {
        checks.of("the kilowatts of all that is taken for this minute so far");
        MeterRooms x = Scenes.store(20, 5, 6, 7);
        x.goods(0, 100);
        x.goods(1, 99);
        x.goods(2, 98);
        x.goods(3, 97);
        int[][] cases = {{48 * 15, 3, 3, 3}, {48 * 15 - 1, 3, 3, 4}, {41 * 15, 3, 3, 4}, {41 * 15 - 1, 3, 4, 4},
            {35 * 15, 3, 4, 4}, {35 * 15 - 1, 4, 4, 4}, {0, 4, 4, 4}};
        for (int[] c : cases) {
            x.set(0, c[0]);
            checks.due("a limit of " + c[0] + ", room 0", 1, x.does(0));
            for (int i = 1; i <= 3; i++) {
                checks.due("a limit of " + c[0] + ", room " + i, c[i], x.does(i));
            }
        }
        MeterRooms y = Scenes.store(5, 6, 5);
        y.goods(0, 3);
        y.goods(1, 2);
        y.goods(2, 1);
        y.set(0, 20 * 15);
        checks.due("the first fits", 3, y.does(0));
        checks.due("the second does not", 4, y.does(1));
        checks.due("what waits is not taken: the third fits", 3, y.does(2));
    }

    private static void fitsWithAnOddLimit() {
        checks.of("are not greater than setting 0");
        for (int more = 0; more < 15; more++) {
            MeterRooms x = Scenes.store(20, 21);
            x.goods(0, -400);
            x.goods(1, -400);
            x.set(0, 30 * 15 + more);
            x.goods(0, 1);
            checks.due("a load of 20, limit " + x.setting(0), 3, x.does(0));
            x.goods(0, -400);
            x.goods(1, 1);
            checks.due("a load of 21, limit " + x.setting(0), 4, x.does(1));
            x.set(0, 31 * 15);
            checks.due("a load of 21, limit 465", 3, x.does(1));
        }
    }

    private static void fitsBehindASum() {
        checks.of("if the sum so far, and ..");
        MeterRooms x = Scenes.store(1);
        x.goods(0, -400);
        x.set(2, 99);
        x.run(14);
        x.set(2, 0);
        x.goods(0, 99);
        checks.due("the sum", 1386, x.about(2));
        x.set(0, 1387);
        checks.due("1386 + 1", 3, x.does(0));
        x.set(0, 1386);
        checks.due("a sum that is the limit", 4, x.does(0));
        x.set(0, 1385);
        checks.due("a sum above the limit", 4, x.does(0));
        x.set(0, 0);
        checks.due("a limit of 0", 4, x.does(0));
        x.set(0, 1386);
        x.run(1);
        checks.due("which it has not passed", 0, x.about(4));
        x.goods(0, 99);
        x.set(0, 15);
        checks.due("the sum of the next one is 0", 3, x.does(0));
    }

    private static void greatestSum() {
        checks.of("5: the greatest sum of a quarter hour that has ended so far, 0 if there was none");
        MeterRooms x = new MeterRooms();
        checks.due("of a new object", 0, x.about(5));
        x.run(14);
        checks.due("none has ended", 0, x.about(5));
        x.run(1);
        checks.due("the first has", 150, x.about(5));
        x.run(15);
        checks.due("a second that is as great", 150, x.about(5));
        x.set(2, 9);
        x.run(15);
        checks.due("a third that is less", 150, x.about(5));
        x.set(2, 10);
        x.run(14);
        x.set(2, 11);
        x.run(1);
        checks.due("a fourth that is greater by 1", 151, x.about(5));
    }

    private static void runOfMinutes() {
        checks.of("n: 1 to 60");
        MeterRooms x = new MeterRooms();
        for (int n : new int[] {0, -1, 61, 62, Integer.MIN_VALUE, Integer.MAX_VALUE}) {
            checks.refused("run(" + n + ")", Checks.ARGUMENT, x, () -> x.run(n));
        }
        checks.due("run(1)", 10, x.run(1));
        checks.due("the minutes then", 1, x.about(1));
        checks.due("run(60)", 600, x.run(60));
        checks.due("the minutes then", 61, x.about(1));
        checks.due("all units, over the ends of quarter hours too", 610, x.about(6));
    }
}
