import java.util.ArrayList;
import java.util.List;
import java.util.function.Supplier;
import java.util.function.ToLongFunction;

/**
 * EXCEPTIONS: each refused call, in several stores, throws the exception that is named first, and changes
 * nothing of what can be read, of what an undo or a restore would bring back, or of the text.
 */
public final class RefusedTest {
    private static final Checks checks = new Checks("RefusedTest");
    private static final int MIN = Integer.MIN_VALUE;
    private static final int MAX = Integer.MAX_VALUE;

    private record Call(String name, Class<? extends RuntimeException> due, ToLongFunction<MeterRooms> call) {
    }

    private static final List<Call> calls = new ArrayList<>();

    public static void main(String[] args) {
        checks.of("A call that throws an exception changes nothing.");
        inEachStore();
        tryAll("a full store", RefusedTest::full);
        tryAll("a store of two rooms", RefusedTest::two);
        tryAll("a new object", MeterRooms::new);
        calls.clear();
        inAFullStore();
        tryAll("a full store", RefusedTest::full);
        calls.clear();
        inANewObject();
        tryAll("a new object", MeterRooms::new);
        calls.clear();
        inAStoreOfTwo();
        tryAll("a store of two rooms", RefusedTest::two);
        checks.end();
    }

    private static void call(String name, Class<? extends RuntimeException> due, ToLongFunction<MeterRooms> call) {
        calls.add(new Call(name, due, call));
    }

    private static void tryAll(String where, Supplier<MeterRooms> store) {
        String due = allOf(store.get());
        for (Call c : calls) {
            MeterRooms x = store.get();
            checks.refused(c.name + " in " + where, c.due, x, () -> c.call.applyAsLong(x));
            checks.same(c.name + " in " + where + " changes nothing, deep down", due, allOf(x));
        }
        MeterRooms all = store.get();
        for (Call c : calls) {
            checks.same(c.name + " behind others in " + where, "throws." + c.due.getSimpleName(),
                    Checks.outcome(() -> c.call.applyAsLong(all)));
        }
        checks.same("all together in " + where + " change nothing", due, allOf(all));
    }

    /** Whatever can be found out of an object; it is used up by that. */
    private static String allOf(MeterRooms x) {
        StringBuilder all = new StringBuilder(Checks.picture(x));
        String undone = Checks.outcome(x::undo);
        for (int k = 0; k < 15 && !undone.startsWith("throws"); k++) {
            all.append(" undo ").append(undone).append(' ').append(x.about(0)).append(' ').append(x.about(1));
            undone = Checks.outcome(x::undo);
        }
        all.append(' ').append(undone).append(' ').append(Checks.picture(x));
        for (int slot = 0; slot <= 1; slot++) {
            int s = slot;
            all.append(" restore ").append(Checks.outcome(() -> x.restore(s)));
            all.append(' ').append(x.about(0)).append(' ').append(x.about(6));
        }
        all.append(" load ").append(Checks.outcome(x::load)).append(' ').append(Checks.outcome(() -> x.append('M')));
        return all.append(' ').append(x.errorPosition()).append(' ').append(x.clearText()).toString();
    }

    /** Six rooms, 14 remembered states, both slots and a text of 120 characters, which is a store. */
    private static MeterRooms full() {
        MeterRooms x = Checks.withText("M" + "r10-001+001".repeat(10) + "m01m02m60");
        for (int i = 0; i < 6; i++) {
            x.add(10 + i, 10 * i - 30, 10 * i);
        }
        x.door(0, true);
        x.run(30);
        x.save(0);
        x.set(0, 0);
        x.run(17);
        x.save(1);
        for (int k = 0; k < 9; k++) {
            x.run(1 + k);
        }
        return x;
    }

    /** Two rooms, a few remembered states, slot 1 and a text that is no store. */
    private static MeterRooms two() {
        MeterRooms x = Checks.withText("Mr10-001+00");
        x.add(20, 0, 50);
        x.add(30, -100, -99);
        x.run(20);
        x.save(1);
        x.run(2);
        return x;
    }

    private static void inEachStore() {
        for (int c : new int[] {-1, 256, MIN, MAX}) {
            call("append(" + c + ")", Checks.ARGUMENT, x -> x.append(c));
        }
        for (int what : new int[] {-1, 11, MIN, MAX}) {
            call("about(" + what + ")", Checks.ARGUMENT, x -> x.about(what));
        }
        for (int what : new int[] {-1, 6, MIN, MAX}) {
            call("setting(" + what + ")", Checks.ARGUMENT, x -> x.setting(what));
            call("set(" + what + ", 5)", Checks.ARGUMENT, x -> x.set(what, 5));
        }
        for (int i : new int[] {-1, 6, MIN, MAX}) {
            roomsThatAreNone(i);
        }
        changesOutOfRange();
        forecastsOutOfRange();
        scriptsOutOfRange();
        for (int slot : new int[] {-1, 2, MIN, MAX}) {
            call("save(" + slot + ")", Checks.INDEX, x -> x.save(slot));
            call("restore(" + slot + ")", Checks.INDEX, x -> x.restore(slot));
        }
    }

    private static void roomsThatAreNone(int i) {
        call("room(" + i + ", 0)", Checks.INDEX, x -> x.room(i, 0));
        call("room(" + i + ", 8)", Checks.INDEX, x -> x.room(i, 8));
        call("room(" + i + ", -1)", Checks.INDEX, x -> x.room(i, -1));
        call("does(" + i + ")", Checks.INDEX, x -> x.does(i));
        call("door(" + i + ", true)", Checks.INDEX, x -> x.door(i, true));
        call("door(" + i + ", false)", Checks.INDEX, x -> x.door(i, false));
        call("goods(" + i + ", 0)", Checks.INDEX, x -> x.goods(i, 0));
        call("goods(" + i + ", 401)", Checks.INDEX, x -> x.goods(i, 401));
        call("goods(" + i + ", -401)", Checks.INDEX, x -> x.goods(i, -401));
        call("warmIn(" + i + ")", Checks.INDEX, x -> x.warmIn(i));
    }

    private static void changesOutOfRange() {
        int[][] rooms = {{0, 0, 1}, {51, 0, 1}, {1, -301, 1}, {1, 200, 201}, {1, 0, 0}, {1, 1, 0}, {1, 0, 201},
            {1, 200, 200}, {MIN, MIN, MAX}};
        for (int[] r : rooms) {
            call("add(" + r[0] + ", " + r[1] + ", " + r[2] + ")", Checks.ARGUMENT, x -> x.add(r[0], r[1], r[2]));
        }
        for (int n : new int[] {0, 61, -1, MIN, MAX}) {
            call("run(" + n + ")", Checks.ARGUMENT, x -> x.run(n));
        }
        int[][] settings = {{0, -1}, {0, 10000}, {1, -1}, {1, 15}, {2, -1}, {2, 100}, {3, 0}, {3, 51}, {4, 0},
            {4, 101}, {5, 0}, {5, 31}, {0, MIN}, {0, MAX}, {6, -1}};
        for (int[] s : settings) {
            call("set(" + s[0] + ", " + s[1] + ")", Checks.ARGUMENT, x -> x.set(s[0], s[1]));
        }
    }

    private static void forecastsOutOfRange() {
        int[][] coming = {{0, 0}, {241, 0}, {1, -1}, {1, 5}, {0, 5}, {241, -1}, {MIN, 0}, {MAX, 0}, {1, MIN}, {1, MAX}};
        for (int[] c : coming) {
            call("coming(" + c[0] + ", " + c[1] + ")", Checks.ARGUMENT, x -> x.coming(c[0], c[1]));
        }
        for (int n : new int[] {0, 61, -1, MIN, MAX}) {
            call("leastLimit(" + n + ")", Checks.ARGUMENT, x -> x.leastLimit(n));
        }
    }

    private static void scriptsOutOfRange() {
        long[][] scripts = {{0, 30000}, {4, 30000}, {1, -1}, {1, 100000}, {2, 10000000000L}, {3, 1000000000000000L},
            {3, Long.MIN_VALUE}, {3, Long.MAX_VALUE}, {MIN, 0}, {MAX, 0}, {0, -1}};
        for (long[] s : scripts) {
            call("runScript(" + s[0] + ", " + s[1] + ")", Checks.ARGUMENT, x -> x.runScript((int) s[0], s[1]));
        }
        for (int m : new int[] {0, 61, -1, MIN, MAX}) {
            call("simulate(1, " + m + ")", Checks.ARGUMENT, x -> x.simulate(1, m));
        }
    }

    private static void inAFullStore() {
        call("append(0)", Checks.STATE, x -> x.append(0));
        call("append(255)", Checks.STATE, x -> x.append(255));
        call("add(1, 0, 1)", Checks.STATE, x -> x.add(1, 0, 1));
        call("add(50, -300, 200)", Checks.STATE, x -> x.add(50, -300, 200));
        anyRoomsNumbers(0);
        anyRoomsNumbers(5);
    }

    private static void anyRoomsNumbers(int i) {
        for (int what : new int[] {-1, 8, MIN, MAX}) {
            call("room(" + i + ", " + what + ")", Checks.ARGUMENT, x -> x.room(i, what));
        }
        for (int v : new int[] {-401, 401, MIN, MAX}) {
            call("goods(" + i + ", " + v + ")", Checks.ARGUMENT, x -> x.goods(i, v));
        }
    }

    private static void inANewObject() {
        call("load()", Checks.STATE, MeterRooms::load);
        call("undo()", Checks.STATE, MeterRooms::undo);
        call("restore(0)", Checks.STATE, x -> x.restore(0));
        call("restore(1)", Checks.STATE, x -> x.restore(1));
        for (int i = 0; i <= 5; i++) {
            roomsThatAreNone(i);
        }
    }

    private static void inAStoreOfTwo() {
        call("load()", Checks.STATE, MeterRooms::load);
        call("restore(0)", Checks.STATE, x -> x.restore(0));
        anyRoomsNumbers(0);
        anyRoomsNumbers(1);
        for (int i = 2; i <= 5; i++) {
            roomsThatAreNone(i);
        }
    }
}
