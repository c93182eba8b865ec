/** Promises 10 to 15: add, door, goods, run, set, undo. */
public final class ActionsTest {
    private static final Checks checks = new Checks("ActionsTest");

    public static void main(String[] args) {
        add();
        addSeven();
        door();
        goods();
        run();
        set();
        setOfClock();
        undo();
        undoOfEach();
        undoOfSixteen();
        refusedIsNotRemembered();
        checks.end();
    }

    private static void add() {
        MeterRooms x = new MeterRooms();
        int[][] wrong = {{0, 0, 1}, {51, 0, 1}, {-1, 0, 1}, {1, -301, 0}, {1, 201, 202}, {1, 200, 200}, {1, 200, 201},
            {1, 0, 0}, {1, 0, -1}, {1, 0, 201}, {1, Integer.MAX_VALUE, Integer.MIN_VALUE}, {Integer.MIN_VALUE, 0, 1},
            {1, Integer.MIN_VALUE, 0}, {1, 0, Integer.MAX_VALUE}};
        for (int[] w : wrong) {
            MeterRooms y = new MeterRooms();
            checks.refused("10: add(" + w[0] + ", " + w[1] + ", " + w[2] + ")", Checks.ARGUMENT, y,
                    () -> y.add(w[0], w[1], w[2]));
        }
        checks.due("10: add(1, -300, -299)", 0, x.add(1, -300, -299));
        checks.due("10: add(50, 199, 200)", 1, x.add(50, 199, 200));
        checks.due("10: add(25, -300, 200)", 2, x.add(25, -300, 200));
        checks.due("10: the rooms then", 3, x.about(0));
        checks.due("10: the bound", 200, x.room(2, 2));
        x.door(2, true);
        x.run(10);
        checks.due("undo", 4, x.undo());
        checks.due("undo", 3, x.undo());
        checks.due("10: undo of add", 2, x.undo());
        checks.due("10: the rooms then", 2, x.about(0));
        checks.due("10: add again", 2, x.add(7, 1, 2));
        int[] fresh = {7, 1, 2, 1, 0, 0, 0, 0};
        for (int what = 0; what <= 7; what++) {
            checks.due("10: room(2, " + what + ")", fresh[what], x.room(2, what));
        }
    }

    private static void addSeven() {
        MeterRooms x = new MeterRooms();
        for (int i = 0; i < 6; i++) {
            checks.due("10: add", i, x.add(1 + i, i, 100));
        }
        checks.refused("10: a seventh room", Checks.STATE, x, () -> x.add(1, 0, 1));
        checks.refused("10: a wrong seventh room", Checks.ARGUMENT, x, () -> x.add(0, 0, 1));
        checks.refused("10: a wrong seventh room", Checks.ARGUMENT, x, () -> x.add(1, 1, 1));
        checks.due("10: undo of the sixth", 5, x.undo());
        checks.due("10: the sixth again", 5, x.add(9, 0, 1));
        checks.due("10: its load", 9, x.room(5, 0));
    }

    private static void door() {
        MeterRooms x = new MeterRooms();
        checks.refused("11: door(0) without rooms", Checks.INDEX, x, () -> x.door(0, true));
        x.add(1, 0, 1);
        x.add(1, 0, 1);
        checks.due("11: door(1, true)", 1, x.door(1, true));
        checks.due("11: it is open", 1, x.room(1, 4));
        checks.due("11: the other one is not", 0, x.room(0, 4));
        checks.due("11: door(1, true) again", 1, x.door(1, true));
        checks.due("11: door(0, true)", 2, x.door(0, true));
        checks.due("11: door(1, false)", 1, x.door(1, false));
        checks.due("11: it is shut", 0, x.room(1, 4));
        checks.due("11: door(1, false) again", 1, x.door(1, false));
        checks.due("11: door(0, false)", 0, x.door(0, false));
        checks.refused("11: door(2)", Checks.INDEX, x, () -> x.door(2, true));
        checks.refused("11: door(-1)", Checks.INDEX, x, () -> x.door(-1, true));
        checks.refused("11: door(MIN)", Checks.INDEX, x, () -> x.door(Integer.MIN_VALUE, false));
    }

    private static void goods() {
        MeterRooms x = new MeterRooms();
        x.add(1, 5, 9);
        checks.due("12: goods(0, -1)", 5, x.goods(0, -1));
        checks.due("12: goods(0, 400)", -1, x.goods(0, 400));
        checks.due("12: goods(0, -400)", 400, x.goods(0, -400));
        checks.due("12: the temperature", -400, x.room(0, 3));
        checks.refused("12: goods(0, 401)", Checks.ARGUMENT, x, () -> x.goods(0, 401));
        checks.refused("12: goods(0, -401)", Checks.ARGUMENT, x, () -> x.goods(0, -401));
        checks.refused("12: goods(1, 0)", Checks.INDEX, x, () -> x.goods(1, 0));
        checks.refused("12: goods(-1, 401)", Checks.INDEX, x, () -> x.goods(-1, 401));
        checks.due("12: undo of goods", 3, x.undo());
        checks.due("12: the temperature", 400, x.room(0, 3));
    }

    private static void run() {
        MeterRooms x = new MeterRooms();
        checks.refused("13: run(0)", Checks.ARGUMENT, x, () -> x.run(0));
        checks.refused("13: run(61)", Checks.ARGUMENT, x, () -> x.run(61));
        checks.refused("13: run(MIN)", Checks.ARGUMENT, x, () -> x.run(Integer.MIN_VALUE));
        checks.due("13: run(1)", 10, x.run(1));
        checks.due("13: run(60)", 600, x.run(60));
        checks.due("13: the minutes", 61, x.about(1));
        x.set(2, 0);
        checks.due("13: run(60) for nothing", 0, x.run(60));
        x.add(20, -200, -150);
        checks.due("13: a minute in which nothing runs, and one in which it does", 20, x.run(2));
    }

    private static void set() {
        MeterRooms x = new MeterRooms();
        int[] first = {600, 0, 10, 12, 30, 6};
        int[] least = {0, 0, 0, 1, 1, 1};
        int[] most = {9999, 14, 99, 50, 100, 30};
        for (int what = 0; what <= 5; what++) {
            int w = what;
            MeterRooms y = new MeterRooms();
            checks.refused("14: set below, " + w, Checks.ARGUMENT, y, () -> y.set(w, least[w] - 1));
            checks.refused("14: set above, " + w, Checks.ARGUMENT, y, () -> y.set(w, most[w] + 1));
            checks.due("14: set to the least, " + w, first[w], x.set(w, least[w]));
            checks.due("14: set to the most, " + w, least[w], x.set(w, most[w]));
            checks.due("14: the setting, " + w, most[w], x.setting(w));
        }
        checks.refused("14: set(-1, 1)", Checks.ARGUMENT, x, () -> x.set(-1, 1));
        checks.refused("14: set(6, 1)", Checks.ARGUMENT, x, () -> x.set(6, 1));
        checks.refused("14: set(MAX, 1)", Checks.ARGUMENT, x, () -> x.set(Integer.MAX_VALUE, 1));
        for (int what = 0; what <= 5; what++) {
            checks.due("14: each setting stays", most[what], x.setting(what));
        }
        checks.due("14: set to the same", 30, x.set(5, 30));
        checks.due("14: which is an action, too", 12, x.undo());
    }

    private static void setOfClock() {
        MeterRooms x = new MeterRooms();
        x.run(10);
        checks.due("14: minutes left", 5, x.about(3));
        x.set(1, 4);
        checks.due("14: minutes left with the clock 4 ahead", 1, x.about(3));
        checks.due("14: the sum stays", 100, x.about(2));
        x.set(1, 5);
        checks.due("14: minutes left with the clock 5 ahead", 15, x.about(3));
        checks.due("14: the sum stays", 100, x.about(2));
        checks.due("14: no quarter hour has ended", 0, x.about(5));
        x.run(15);
        checks.due("14: the sum of a long one", 250, x.about(5));
    }

    private static void undo() {
        MeterRooms x = new MeterRooms();
        checks.refused("15: undo of nothing", Checks.STATE, x, x::undo);
        x.add(1, 0, 100);
        x.run(5);
        x.run(6);
        checks.due("15: undo", 2, x.undo());
        checks.due("15: the minutes then", 5, x.about(1));
        x.run(3);
        checks.due("15: the minutes then", 8, x.about(1));
        checks.due("15: undo of another action", 2, x.undo());
        checks.due("15: the minutes then", 5, x.about(1));
        checks.due("15: undo", 1, x.undo());
        checks.due("15: undo", 0, x.undo());
        checks.due("15: the rooms then", 0, x.about(0));
        checks.refused("15: undo of no more", Checks.STATE, x, x::undo);
    }

    private static void undoOfEach() {
        // What is remembered is seen in another store, as an object is good for 512 calls.
        MeterRooms twin = busy();
        MeterRooms x = busy();
        String[] before = new String[6];
        for (int k = 0; k < 6; k++) {
            before[k] = Checks.picture(twin);
            act(twin, k);
            act(x, k);
        }
        for (int k = 5; k >= 0; k--) {
            x.undo();
            checks.same("15: undo of action " + k, before[k], Checks.picture(x));
        }
    }

    private static void act(MeterRooms x, int k) {
        switch (k) {
            case 0 -> x.add(9, 9, 10);
            case 1, 5 -> x.door(0, false);
            case 2 -> x.goods(1, -7);
            case 3 -> x.set(1, 3);
            default -> x.run(60);
        }
    }

    /** A store in which a quarter hour has passed, defrosts were begun and put off, rooms waited and were warm. */
    private static MeterRooms busy() {
        MeterRooms x = Checks.withText("Mr20-200-150r30+020+060r10+100+140l0200o0o2m60z2l0700m60l0100m40");
        x.load();
        return x;
    }

    private static void undoOfSixteen() {
        MeterRooms x = new MeterRooms();
        for (int k = 1; k <= 16; k++) {
            x.run(1);
        }
        for (int k = 13; k >= 0; k--) {
            checks.due("15: undo", k, x.undo());
            checks.due("15: the minutes then", k + 2, x.about(1));
        }
        checks.refused("15: undo of the fifteenth", Checks.STATE, x, x::undo);
        for (int k = 1; k <= 40; k++) {
            x.run(k);
        }
        int minutes = x.about(1);
        for (int k = 40; k >= 27; k--) {
            checks.due("15: undo", k - 27, x.undo());
            minutes -= k;
            checks.due("15: the minutes then", minutes, x.about(1));
        }
        checks.refused("15: undo of no more", Checks.STATE, x, x::undo);
    }

    private static void refusedIsNotRemembered() {
        MeterRooms x = new MeterRooms();
        x.add(1, 0, 1);
        Checks.outcome(() -> x.add(0, 0, 1));
        Checks.outcome(() -> x.door(1, true));
        Checks.outcome(() -> x.goods(1, 0));
        Checks.outcome(() -> x.goods(0, 401));
        Checks.outcome(() -> x.run(0));
        Checks.outcome(() -> x.set(0, -1));
        Checks.outcome(() -> x.load());
        Checks.outcome(() -> x.restore(0));
        Checks.outcome(() -> x.restore(2));
        checks.due("15: undo behind calls that threw", 0, x.undo());
        for (int k = 0; k < 6; k++) {
            x.add(1, 0, 1);
        }
        Checks.outcome(() -> x.add(1, 0, 1));
        checks.due("15: undo behind a seventh room", 5, x.undo());
        x.spare();
        x.warmIn(0);
        x.coming(9, 0);
        x.leastLimit(9);
        x.bestShut();
        x.runScript(1, 20010);
        x.simulate(1, 9);
        x.save(0);
        x.does(0);
        checks.due("15: undo behind calls that are no actions", 4, x.undo());
    }
}
