/** Promises 1 and 6 to 9: a new object, about, room, does, setting. */
public final class ThereTest {
    private static final Checks checks = new Checks("ThereTest");
    private static final int[] FIRST = {600, 0, 10, 12, 30, 6};

    public static void main(String[] args) {
        newObject();
        about();
        accountsOfMeter();
        accountsOfRooms();
        room();
        does();
        checks.end();
    }

    private static void abouts(String when, MeterRooms x, int... want) {
        for (int what = 0; what < want.length; what++) {
            checks.due("6: about(" + what + ") " + when, want[what], x.about(what));
        }
    }

    private static void newObject() {
        MeterRooms x = new MeterRooms();
        abouts("of a new object", x, 0, 0, 0, 15, 0, 0, 0, 0, 0, 0, 0);
        for (int what = 0; what <= 5; what++) {
            checks.due("1, 9: setting(" + what + ")", FIRST[what], x.setting(what));
        }
        checks.due("1: errorPosition of a new object", 0, x.errorPosition());
        checks.refused("1: undo of a new object", Checks.STATE, x, x::undo);
        checks.refused("1: restore(0) of a new object", Checks.STATE, x, () -> x.restore(0));
        checks.refused("7: room(0, 0) without rooms", Checks.INDEX, x, () -> x.room(0, 0));
        checks.refused("8: does(0) without rooms", Checks.INDEX, x, () -> x.does(0));
        checks.refused("9: setting(-1)", Checks.ARGUMENT, x, () -> x.setting(-1));
        checks.refused("9: setting(6)", Checks.ARGUMENT, x, () -> x.setting(6));
        checks.refused("9: setting(MAX)", Checks.ARGUMENT, x, () -> x.setting(Integer.MAX_VALUE));
    }

    private static void about() {
        MeterRooms x = new MeterRooms();
        checks.refused("6: about(-1)", Checks.ARGUMENT, x, () -> x.about(-1));
        checks.refused("6: about(11)", Checks.ARGUMENT, x, () -> x.about(11));
        checks.refused("6: about(MIN)", Checks.ARGUMENT, x, () -> x.about(Integer.MIN_VALUE));
    }

    private static void accountsOfMeter() {
        MeterRooms x = new MeterRooms();
        x.set(0, 160);
        x.run(14);
        abouts("behind 14 minutes", x, 0, 14, 140, 1, 0, 0, 140, 0, 0, 0, 0);
        x.run(1);
        abouts("behind a quarter hour", x, 0, 15, 0, 15, 0, 150, 150, 0, 0, 0, 0);
        x.set(2, 11);
        x.run(16);
        abouts("behind one that passed", x, 0, 31, 11, 14, 1, 165, 326, 0, 0, 0, 0);
        x.set(2, 0);
        x.run(14);
        abouts("behind a cheap one", x, 0, 45, 0, 15, 1, 165, 326, 0, 0, 0, 0);
    }

    private static void accountsOfRooms() {
        MeterRooms x = new MeterRooms();
        x.add(20, 0, 10);
        x.add(20, 0, 10);
        x.goods(0, 9);
        x.goods(1, 5);
        x.set(0, 0);
        x.run(1);
        abouts("behind two waits", x, 2, 1, 10, 14, 0, 0, 10, 0, 2, 0, 1);
        checks.due("6: the warm room", 10, x.room(0, 3));
        x.run(1);
        abouts("behind a must and a wait", x, 2, 2, 40, 13, 0, 0, 40, 0, 3, 0, 1);
        checks.due("7: the minutes that the warm one ran", 1, x.room(0, 7));
    }

    private static void room() {
        MeterRooms x = new MeterRooms();
        x.add(20, -200, -150);
        x.add(50, 199, 200);
        int[][] want = {{20, -200, -150, -200, 0, 0, 0, 0}, {50, 199, 200, 199, 0, 0, 0, 0}};
        for (int i = 0; i < 2; i++) {
            for (int what = 0; what <= 7; what++) {
                checks.due("7: room(" + i + ", " + what + ")", want[i][what], x.room(i, what));
            }
        }
        x.door(0, true);
        x.goods(0, -170);
        x.run(1);
        int[] then = {20, -200, -150, -174, 1, 3, 0, 1};
        for (int what = 0; what <= 7; what++) {
            checks.due("7: room(0, " + what + ") behind a minute", then[what], x.room(0, what));
        }
        checks.refused("7: room(2, 0)", Checks.INDEX, x, () -> x.room(2, 0));
        checks.refused("7: room(-1, 0)", Checks.INDEX, x, () -> x.room(-1, 0));
        checks.refused("7: room(6, 8)", Checks.INDEX, x, () -> x.room(6, 8));
        checks.refused("7: room(MAX, 0)", Checks.INDEX, x, () -> x.room(Integer.MAX_VALUE, 0));
        checks.refused("7: room(1, 8)", Checks.ARGUMENT, x, () -> x.room(1, 8));
        checks.refused("7: room(1, -1)", Checks.ARGUMENT, x, () -> x.room(1, -1));
    }

    private static void does() {
        MeterRooms x = new MeterRooms();
        x.add(20, 0, 10);
        checks.due("8: does nothing", 7, x.does(0));
        x.goods(0, 1);
        checks.due("8: runs", 3, x.does(0));
        x.set(0, 449);
        checks.due("8: waits", 4, x.does(0));
        x.goods(0, 10);
        checks.due("8: must run", 1, x.does(0));
        freeze(x, 15);
        x.set(0, 329);
        checks.due("8: a defrost is put off", 6, x.does(0));
        x.set(0, 330);
        checks.due("8: a defrost begins", 5, x.does(0));
        x.run(1);
        checks.due("8: is defrosted already", 0, x.does(0));
        x.goods(0, 10);
        checks.due("8: is defrosted, though warm", 0, x.does(0));
        checks.refused("8: does(1)", Checks.INDEX, x, () -> x.does(1));
        checks.refused("8: does(-1)", Checks.INDEX, x, () -> x.does(-1));

        MeterRooms y = new MeterRooms();
        y.add(20, 0, 10);
        y.set(4, 100);
        freeze(y, 50);
        checks.due("8: must be defrosted", 2, y.does(0));
        y.goods(0, 10);
        checks.due("8: must run, though all frost", 1, y.does(0));
    }

    /** Gives room 0 twice as much frost as minutes go by, and stays cold. */
    private static void freeze(MeterRooms x, int minutes) {
        x.door(0, true);
        x.goods(0, -400);
        x.run(minutes);
        x.door(0, false);
        checks.due("the frost", 2 * minutes, x.room(0, 5));
    }
}
