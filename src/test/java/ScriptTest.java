/** Promises 21 and 22: runScript, simulate. */
public final class ScriptTest {
    private static final Checks checks = new Checks("ScriptTest");

    public static void main(String[] args) {
        wrongScripts();
        groupsThatAreNone();
        doors();
        runs();
        settings();
        goods();
        frosts();
        doings();
        quarterHours();
        warmRooms();
        sequences();
        scriptChangesNothing();
        simulate();
        simulateChangesNothing();
        checks.end();
    }

    /** Rooms 0 and 1; room 0 is a tenth below its bound, room 1 is as warm as it; doors are shut. */
    private static MeterRooms store() {
        MeterRooms x = new MeterRooms();
        x.add(20, 0, 50);
        x.add(20, 0, 50);
        x.goods(0, 49);
        x.goods(1, 50);
        x.set(0, 750);
        return x;
    }

    private static void script(MeterRooms x, int n, long script, int want) {
        checks.due("21: runScript(" + n + ", " + script + ")", want, x.runScript(n, script));
    }

    private static void succeed(MeterRooms x, int... groups) {
        for (int group : groups) {
            script(x, 1, group, -1);
        }
    }

    private static void fail(MeterRooms x, int... groups) {
        for (int group : groups) {
            script(x, 1, group, 0);
        }
    }

    private static void wrongScripts() {
        for (int n : new int[] {0, 4, -1, Integer.MIN_VALUE, Integer.MAX_VALUE}) {
            MeterRooms x = store();
            checks.refused("21: n is " + n, Checks.ARGUMENT, x, () -> x.runScript(n, 30000));
            checks.refused("21: n is " + n, Checks.ARGUMENT, x, () -> x.runScript(n, 0));
        }
        MeterRooms z = store();
        checks.refused("21: script is -1", Checks.ARGUMENT, z, () -> z.runScript(1, -1));
        checks.refused("21: script is MIN", Checks.ARGUMENT, z, () -> z.runScript(3, Long.MIN_VALUE));
        checks.refused("21: script is MAX", Checks.ARGUMENT, z, () -> z.runScript(3, Long.MAX_VALUE));
        long most = 1;
        for (int n = 1; n <= 3; n++) {
            MeterRooms y = store();
            most *= 100000;
            int k = n;
            long script = most;
            checks.refused("21: a digit too many for " + n, Checks.ARGUMENT, y, () -> y.runScript(k, script));
            checks.due("21: the most digits for " + n, 0, y.runScript(n, script - 1));
            checks.due("21: no digits for " + n, 0, y.runScript(n, 0));
        }
    }

    private static void groupsThatAreNone() {
        MeterRooms x = store();
        fail(x, 0, 1, 9999, 100, 2001, 10);
    }

    private static void doors() {
        MeterRooms x = store();
        succeed(x, 10000, 10100, 11000, 11100);
        fail(x, 10200, 10900, 10110, 10101, 10010, 10001, 12000, 12100, 16100, 19100);
        // An open door shows in the frost behind a minute: 3 where it runs, 1 where the door is shut.
        script(x, 3, 111002000161030L, -1);
        script(x, 3, 111002000161020L, 2);
        script(x, 3, 110002000161010L, -1);
        script(x, 3, 110002000161000L, 2);
    }

    private static void runs() {
        MeterRooms x = store();
        succeed(x, 20001, 20009, 20010, 20060, 30000);
        fail(x, 20000, 20061, 20099, 20101, 21001, 20110, 29010, 30001, 30010, 30100, 31000);
        MeterRooms y = new MeterRooms();
        y.set(0, 149);
        script(y, 2, 2001480000L, -1);
        script(y, 2, 2001580000L, 1);
        script(y, 2, 3000080000L, 1);
        script(y, 2, 3000080001L, -1);
        script(y, 3, 300003000080001L, 2);
        script(y, 3, 300003000080002L, -1);
        script(y, 3, 200592000180003L, 2);
        script(y, 3, 200592000180004L, -1);
    }

    private static void settings() {
        MeterRooms x = store();
        succeed(x, 40000, 40990, 41000, 41140, 42000, 42990, 43010, 43500, 44010, 44990, 45010, 45300);
        fail(x, 40001, 40999, 41150, 42001, 43000, 43510, 44000, 45000, 45310, 46010, 47010, 49990);
        // Setting 2 is 99 then, so room 0 does not run.
        script(x, 2, 4299070003L, 1);
        script(x, 2, 4299070004L, -1);
        script(x, 2, 4201070003L, -1);
    }

    private static void goods() {
        MeterRooms x = store();
        succeed(x, 50000, 50990, 51500);
        fail(x, 50001, 50999, 52000, 52500, 56000, 59990);
        script(x, 2, 5049090001L, 1);
        script(x, 2, 5049090000L, -1);
        script(x, 2, 5050090001L, -1);
        script(x, 2, 5050090000L, 1);
        script(x, 2, 5150090001L, 1);
        script(x, 2, 5149091000L, -1);
    }

    private static void frosts() {
        MeterRooms x = store();
        succeed(x, 60000, 61000, 60990);
        fail(x, 60001, 60991, 62000, 66000, 69990);
        x.goods(0, -400);
        x.door(0, true);
        x.run(6);
        succeed(x, 60120, 60130, 60990);
        fail(x, 60110, 60000, 60111, 60129);
        x.set(4, 100);
        x.run(44);
        checks.due("the frost", 100, x.room(0, 5));
        fail(x, 60990);
    }

    private static void doings() {
        MeterRooms x = store();
        succeed(x, 70003, 71001);
        fail(x, 70000, 70001, 70002, 70004, 70005, 70006, 70007, 70008, 70009, 71000, 71003, 72007, 72000, 76000,
                70013, 70103, 79003);
        x.set(0, 0);
        succeed(x, 70004, 71001);
        fail(x, 70003);
        x.goods(0, 0);
        succeed(x, 70007);
        x.door(0, true);
        x.goods(0, -400);
        x.run(15);
        succeed(x, 70006);
        x.set(0, 9999);
        succeed(x, 70005);
        x.run(1);
        succeed(x, 70000);
        fail(x, 72000);
        MeterRooms y = store();
        y.goods(0, -400);
        y.door(0, true);
        y.set(4, 100);
        y.run(50);
        succeed(y, 70002);
    }

    private static void quarterHours() {
        MeterRooms x = new MeterRooms();
        x.set(0, 0);
        succeed(x, 80000, 80099);
        x.run(60);
        x.run(60);
        x.run(60);
        checks.due("the quarter hours", 12, x.about(4));
        succeed(x, 80012, 80013, 80020, 80099);
        fail(x, 80011, 80002, 80000, 80100, 80112, 81012, 81099, 80199);
        for (int k = 0; k < 22; k++) {
            x.run(60);
        }
        checks.due("the quarter hours", 100, x.about(4));
        fail(x, 80099);
    }

    private static void warmRooms() {
        MeterRooms x = store();
        succeed(x, 90000, 91001);
        fail(x, 90001, 91000, 90002, 91002, 90009, 91009, 90010, 90100, 91011, 91101, 92000, 92001, 99000);
        x.goods(0, 51);
        succeed(x, 90001);
        fail(x, 90000, 90002);
    }

    private static void sequences() {
        MeterRooms x = store();
        script(x, 3, 300003000030000L, -1);
        script(x, 3, 300003000030001L, 2);
        script(x, 3, 300003000130000L, 1);
        script(x, 3, 300003000130001L, 1);
        script(x, 3, 300013000030000L, 0);
        script(x, 3, 3000030000L, 0);
        script(x, 3, 30000L, 0);
        script(x, 2, 30000L, 0);
        script(x, 2, 3000000000L, 1);
        script(x, 1, 30000L, -1);
    }

    private static void scriptChangesNothing() {
        MeterRooms x = store();
        String before = Checks.picture(x);
        script(x, 3, 101004001050990L, -1);
        checks.same("21: changes nothing", before, Checks.picture(x));
        script(x, 3, 101003000099999L, 2);
        checks.same("21: changes nothing", before, Checks.picture(x));
        checks.due("21: is no action", 4, x.undo());
    }

    private static void simulate() {
        MeterRooms x = store();
        checks.refused("22: m is 0", Checks.ARGUMENT, x, () -> x.simulate(1, 0));
        checks.refused("22: m is 61", Checks.ARGUMENT, x, () -> x.simulate(1, 61));
        checks.refused("22: m is MIN", Checks.ARGUMENT, x, () -> x.simulate(1, Integer.MIN_VALUE));
        long[] seeds = {0, 1, -1, 2, 77, Long.MIN_VALUE, Long.MAX_VALUE, 123456789012345L, -5, 4711};
        int total = 0;
        for (int rooms = 0; rooms <= 6; rooms++) {
            for (long seed : seeds) {
                for (int m = 1; m <= 60; m += 7) {
                    MeterRooms y = filled(rooms);
                    int want = turns(filled(rooms), seed, m);
                    checks.due("22: simulate(" + seed + ", " + m + ") of " + rooms, want, y.simulate(seed, m));
                    total += want % 1000;
                }
            }
        }
        checks.due("22: some began defrosts", 1, total > 0 ? 1 : 0);
    }

    private static MeterRooms filled(int rooms) {
        MeterRooms x = new MeterRooms();
        for (int i = 0; i < rooms; i++) {
            x.add(10 + 5 * i, 20 * i - 60, 20 * i - 20);
            x.door(i, i % 2 == 0);
        }
        x.set(0, 100);
        x.run(50);
        if (rooms > 0) {
            x.door(0, true);
            x.goods(0, -400);
            x.set(0, 999);
            x.set(4, 3);
            x.run(4);
            checks.due("22: a defrost was begun before", 1, x.about(7) > 0 ? 1 : 0);
            checks.due("22: a quarter hour passed before", 1, x.about(4) > 0 ? 1 : 0);
        }
        return x;
    }

    /** Does the turns with the methods themselves. */
    private static int turns(MeterRooms x, long seed, int m) {
        int passed = x.about(4);
        int begun = x.about(7);
        long state = seed;
        for (int k = 0; k < m; k++) {
            state = state * 6364136223846793005L + 1442695040888963407L;
            int r = (int) (state >>> 33);
            int q = r / 8;
            Checks.outcome(() -> switch (r % 8) {
                case 0, 1 -> x.door(q % 6, q / 8 % 3 == 0);
                case 2 -> x.goods(q % 6, q / 8 % 401 - 200);
                case 3 -> x.set(0, q % 1000);
                case 4 -> x.set(4, 1 + q % 100);
                default -> x.run(1 + q % 15);
            });
        }
        return 1000 * (x.about(4) - passed) + x.about(7) - begun;
    }

    private static void simulateChangesNothing() {
        MeterRooms x = store();
        String before = Checks.picture(x);
        x.simulate(5, 60);
        checks.same("22: changes nothing", before, Checks.picture(x));
        checks.due("22: is no action", 4, x.undo());
    }
}
