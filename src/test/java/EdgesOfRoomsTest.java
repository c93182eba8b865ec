import java.util.Arrays;
import java.util.List;
import java.util.function.LongSupplier;

/** The boundaries in ROOMS and SETTINGS, and in promises 6, 7, 9 to 12 and 14. */
public final class EdgesOfRoomsTest {
    private static final Checks checks = new Checks("EdgesOfRoomsTest");
    private static final int MIN = Integer.MIN_VALUE;
    private static final int MAX = Integer.MAX_VALUE;
    private static final int[] LEAST = {0, 0, 0, 1, 1, 1};
    private static final int[] MOST = {9999, 14, 99, 50, 100, 30};
    private static final int[] FIRST = {600, 0, 10, 12, 30, 6};

    public static void main(String[] args) {
        atMostSixRooms();
        whichRoomsAre();
        loads();
        wishesAndBounds();
        boundAboveWish();
        addNamesArgumentsFirst();
        firstTemperature();
        goods();
        goodsMayAnswerNone();
        firstDoorFrostAndDefrost();
        roomOfAnUndoneOneIsNew();
        openDoors();
        kindsOfNumbers();
        firstSettings();
        endsOfSettings();
        settingsThatAreNone();
        checks.end();
    }

    private static MeterRooms rooms(int count) {
        return Scenes.store(Arrays.copyOf(new int[] {10, 20, 30, 40, 50, 1}, count));
    }

    private static void atMostSixRooms() {
        checks.of("There are at most 6 rooms, numbered from 0.");
        MeterRooms x = new MeterRooms();
        checks.due("the rooms of a new object", 0, x.about(0));
        for (int i = 0; i < 6; i++) {
            checks.due("the number of the next one", i, x.add(i + 1, 0, 1));
            checks.due("the rooms then", i + 1, x.about(0));
            checks.due("its load", i + 1, x.room(i, 0));
        }
        checks.refused("a seventh", Checks.STATE, x, () -> x.add(7, 0, 1));
        checks.due("the rooms then", 6, x.about(0));
        x.undo();
        checks.due("behind an undo a sixth is allowed", 5, x.add(7, 0, 1));
        checks.refused("and no seventh", Checks.STATE, x, () -> x.add(7, 0, 1));
    }

    private static void whichRoomsAre() {
        checks.of("IndexOutOfBoundsException means that a room does not exist");
        for (int count = 0; count <= 6; count++) {
            for (int i = 0; i < count; i++) {
                MeterRooms x = rooms(count);
                for (LongSupplier call : callsOfRoom(x, i)) {
                    checks.same("room " + i + " of " + count, "false", "" + Checks.outcome(call).startsWith("throws"));
                }
            }
            for (int i : new int[] {-1, count, 6, 7, MIN, MAX}) {
                for (int k = 0; k < 5; k++) {
                    MeterRooms x = rooms(count);
                    checks.refused("room " + i + " of " + count, Checks.INDEX, x, callsOfRoom(x, i).get(k));
                }
            }
        }
    }

    private static List<LongSupplier> callsOfRoom(MeterRooms x, int i) {
        return List.of(() -> x.room(i, 0), () -> x.does(i), () -> x.door(i, false), () -> x.goods(i, 0),
                () -> x.warmIn(i));
    }

    private static void loads() {
        checks.of("A room has a compressor with a load of 1 to 50 kilowatts");
        MeterRooms x = new MeterRooms();
        for (int load : new int[] {0, -1, 51, 52, MIN, MAX}) {
            checks.refused("a load of " + load, Checks.ARGUMENT, x, () -> x.add(load, 0, 100));
        }
        checks.due("a load of 1", 0, x.add(1, 0, 100));
        checks.due("a load of 50", 1, x.add(50, 0, 100));
        checks.due("the load of 1", 1, x.room(0, 0));
        checks.due("the load of 50", 50, x.room(1, 0));
    }

    private static void wishesAndBounds() {
        checks.of("a wish and a bound for its temperature, in tenths of a degree, -300 to 200 both");
        MeterRooms x = new MeterRooms();
        int[][] outside = {{-301, 200}, {-301, -300}, {-302, 0}, {MIN, 0}, {-300, 201}, {199, 201}, {200, 201},
            {200, 200}, {0, MAX}, {201, 202}, {MIN, MAX}};
        for (int[] w : outside) {
            checks.refused("add(9, " + w[0] + ", " + w[1] + ")", Checks.ARGUMENT, x, () -> x.add(9, w[0], w[1]));
        }
        int[][] inside = {{-300, 200}, {-300, -299}, {199, 200}, {-299, 199}};
        for (int i = 0; i < inside.length; i++) {
            checks.due("add(9, " + inside[i][0] + ", " + inside[i][1] + ")", i, x.add(9, inside[i][0], inside[i][1]));
            checks.due("its wish", inside[i][0], x.room(i, 1));
            checks.due("its bound", inside[i][1], x.room(i, 2));
        }
    }

    private static void boundAboveWish() {
        checks.of("the bound greater than the wish");
        for (int wish : new int[] {-300, -299, -2, -1, 0, 1, 198, 199}) {
            MeterRooms x = new MeterRooms();
            checks.refused("the wish itself, " + wish, Checks.ARGUMENT, x, () -> x.add(9, wish, wish));
            checks.refused("a tenth less than " + wish, Checks.ARGUMENT, x, () -> x.add(9, wish, wish - 1));
            checks.due("a tenth more than " + wish, 0, x.add(9, wish, wish + 1));
            checks.due("the bound then", wish + 1, x.room(0, 2));
        }
        MeterRooms x = new MeterRooms();
        checks.refused("MAX and what is one more", Checks.ARGUMENT, x, () -> x.add(9, MAX, MIN));
        checks.refused("the most wish that is none", Checks.ARGUMENT, x, () -> x.add(9, 200, 200));
    }

    private static void addNamesArgumentsFirst() {
        checks.of("If several exceptions apply to a call, the one that its description names first is thrown.");
        int[][] wrong = {{0, 0, 1}, {51, 0, 1}, {1, -301, 1}, {1, 0, 201}, {1, 0, 0}};
        for (int[] w : wrong) {
            MeterRooms x = rooms(6);
            checks.refused("a seventh room that is wrong, too", Checks.ARGUMENT, x, () -> x.add(w[0], w[1], w[2]));
            checks.refused("a seventh room", Checks.STATE, x, () -> x.add(1, 0, 1));
        }
        for (int i : new int[] {-1, 6}) {
            MeterRooms x = rooms(6);
            checks.refused("a number of no room", Checks.INDEX, x, () -> x.room(i, -1));
            checks.refused("a number of no room", Checks.INDEX, x, () -> x.room(i, 8));
            MeterRooms y = rooms(6);
            checks.refused("goods for no room", Checks.INDEX, y, () -> y.goods(i, -401));
            checks.refused("goods for no room", Checks.INDEX, y, () -> y.goods(i, 401));
        }
    }

    private static void firstTemperature() {
        checks.of("a temperature, -400 to 400, at first its wish");
        int[] wishes = {-300, -1, 0, 1, 199};
        MeterRooms x = new MeterRooms();
        for (int i = 0; i < wishes.length; i++) {
            x.add(9, wishes[i], 200);
            checks.due("the temperature of a new room", wishes[i], x.room(i, 3));
        }
    }

    private static void goods() {
        checks.of("v: -400 to 400");
        MeterRooms x = rooms(1);
        for (int v : new int[] {-401, 401, -402, 402, MIN, MAX}) {
            checks.refused("goods(0, " + v + ")", Checks.ARGUMENT, x, () -> x.goods(0, v));
        }
        checks.due("goods(0, -400)", 0, x.goods(0, -400));
        checks.due("the temperature then", -400, x.room(0, 3));
        checks.due("goods(0, 400)", -400, x.goods(0, 400));
        checks.due("the temperature then", 400, x.room(0, 3));
        checks.due("goods(0, -399)", 400, x.goods(0, -399));
        checks.due("goods(0, 399)", -399, x.goods(0, 399));
        checks.due("the temperature then", 399, x.room(0, 3));
    }

    private static void goodsMayAnswerNone() {
        checks.of("the previous temperature (it may be the same as NONE)");
        MeterRooms x = rooms(1);
        checks.due("goods(0, -1)", 0, x.goods(0, -1));
        checks.due("goods(0, -1) again", MeterRooms.NONE, x.goods(0, -1));
        checks.due("goods(0, 0)", MeterRooms.NONE, x.goods(0, 0));
        checks.due("goods(0, 0) again", 0, x.goods(0, 0));
        x.goods(0, -1);
        checks.due("the number of a room may be so, too", MeterRooms.NONE, x.room(0, 3));
    }

    private static void firstDoorFrostAndDefrost() {
        checks.of("a door, open or shut (at first); frost, 0 to 100, at first 0; and minutes of defrosting .. at first 0");
        MeterRooms x = rooms(6);
        for (int i = 0; i < 6; i++) {
            checks.due("the door", 0, x.room(i, 4));
            checks.due("the frost", 0, x.room(i, 5));
            checks.due("the minutes left", 0, x.room(i, 6));
            checks.due("the minutes run", 0, x.room(i, 7));
            checks.due("it is not defrosted", 7, x.does(i));
        }
    }

    private static void roomOfAnUndoneOneIsNew() {
        checks.of("Adds a room.");
        MeterRooms x = new MeterRooms();
        x.add(20, 0, 100);
        x.door(0, true);
        x.goods(0, -400);
        x.run(15);
        x.run(1);
        x.goods(0, 400);
        x.door(0, true);
        checks.due("it is defrosted", 5, x.room(0, 6));
        for (int k = 0; k < 7; k++) {
            x.undo();
        }
        checks.due("the rooms of all undone", 0, x.about(0));
        checks.due("add again", 0, x.add(30, -5, 5));
        int[] want = {30, -5, 5, -5, 0, 0, 0, 0};
        for (int what = 0; what < 8; what++) {
            checks.due("room(0, " + what + ")", want[what], x.room(0, what));
        }
    }

    private static void openDoors() {
        checks.of("Returns how many doors are open then.");
        MeterRooms x = rooms(6);
        for (int i = 0; i < 6; i++) {
            checks.due("the last door that is open is shut", i, x.door(i, false));
            checks.due("one more is open", i + 1, x.door(i, true));
            checks.due("it is open already", i + 1, x.door(i, true));
        }
        for (int i = 5; i >= 0; i--) {
            checks.due("one less is open", i, x.door(i, false));
            checks.due("it is shut already", i, x.door(i, false));
        }
    }

    private static void kindsOfNumbers() {
        MeterRooms x = rooms(1);
        checks.of("Throws IllegalArgumentException if what is not 0 to 10");
        for (int what : new int[] {-1, 11, 12, MIN, MAX}) {
            checks.refused("about(" + what + ")", Checks.ARGUMENT, x, () -> x.about(what));
        }
        checks.due("about(0)", 1, x.about(0));
        checks.due("about(10)", 0, x.about(10));
        checks.of("Throws IllegalArgumentException if what is not 0 to 7");
        MeterRooms y = rooms(1);
        for (int what : new int[] {-1, 8, 9, MIN, MAX}) {
            checks.refused("room(0, " + what + ")", Checks.ARGUMENT, y, () -> y.room(0, what));
        }
        checks.due("room(0, 0)", 10, y.room(0, 0));
        checks.due("room(0, 7)", 0, y.room(0, 7));
    }

    private static void firstSettings() {
        checks.of("0: the limit of a quarter hour, 0 to 9999, at first 600; 1: .., at first 0; 2: .., at first 10; "
                + "3: .., at first 12; 4: .., at first 30; 5: .., at first 6");
        MeterRooms x = new MeterRooms();
        for (int what = 0; what <= 5; what++) {
            checks.due("setting(" + what + ")", FIRST[what], x.setting(what));
        }
    }

    private static void endsOfSettings() {
        checks.of("v: the new value, in its range");
        for (int what = 0; what <= 5; what++) {
            int w = what;
            MeterRooms x = new MeterRooms();
            for (int v : new int[] {LEAST[w] - 1, MOST[w] + 1, MIN, MAX}) {
                checks.refused("set(" + w + ", " + v + ")", Checks.ARGUMENT, x, () -> x.set(w, v));
            }
            checks.due("set(" + w + ", least)", FIRST[w], x.set(w, LEAST[w]));
            checks.due("setting(" + w + ") then", LEAST[w], x.setting(w));
            checks.due("set(" + w + ", most)", LEAST[w], x.set(w, MOST[w]));
            checks.due("setting(" + w + ") then", MOST[w], x.setting(w));
            for (int other = 0; other <= 5; other++) {
                checks.due("setting(" + other + ") behind changes of " + w, other == w ? MOST[w] : FIRST[other],
                        x.setting(other));
            }
        }
    }

    private static void settingsThatAreNone() {
        checks.of("what: 0 to 5");
        MeterRooms x = new MeterRooms();
        for (int what : new int[] {-1, 6, 7, MIN, MAX}) {
            checks.refused("setting(" + what + ")", Checks.ARGUMENT, x, () -> x.setting(what));
            checks.refused("set(" + what + ", 5)", Checks.ARGUMENT, x, () -> x.set(what, 5));
        }
    }
}
