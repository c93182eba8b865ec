import java.util.List;
import java.util.function.LongSupplier;

/** The boundaries in ACTIONS AND UNDO, and in promises 15, 23 and 24. */
public final class EdgesOfUndoTest {
    private static final Checks checks = new Checks("EdgesOfUndoTest");

    public static void main(String[] args) {
        nothingIsRemembered();
        mostStates();
        oldestIsForgotten();
        undoneMakesPlace();
        actionsThatChangeNothing();
        undoIsNoAction();
        refusedCallsAreNoActions();
        questionsAreNoActions();
        stateAheadOfTheAction();
        everythingIsOfTheState();
        textIsNoPartOfTheState();
        slotsAreNoPartOfTheState();
        slotNumbers();
        emptySlots();
        slotBehindLoad();
        slotIsNamedFirst();
        restoreForgetsAll();
        refusedRestoreForgetsNothing();
        slotKeepsItsState();
        slotIsWrittenOver();
        minutesOfSlots();
        roomsOfSlots();
        saveIsNoAction();
        checks.end();
    }

    private static MeterRooms behind(int actions) {
        MeterRooms x = new MeterRooms();
        for (int k = 0; k < actions; k++) {
            x.run(1);
        }
        return x;
    }

    private static void nothingIsRemembered() {
        checks.of("Throws IllegalStateException if none is remembered");
        MeterRooms x = new MeterRooms();
        checks.refused("undo in a new object", Checks.STATE, x, x::undo);
        x.run(1);
        checks.due("undo of the only one", 0, x.undo());
        checks.refused("undo then", Checks.STATE, x, x::undo);
        checks.refused("undo once more", Checks.STATE, x, x::undo);
        x.run(1);
        checks.due("undo of a new one", 0, x.undo());
    }

    private static void mostStates() {
        checks.of("At most 14 states are remembered");
        for (int actions : new int[] {1, 2, 13, 14, 15, 16, 28, 29, 100}) {
            MeterRooms x = behind(actions);
            int most = Math.min(14, actions);
            for (int k = most - 1; k >= 0; k--) {
                checks.due("behind " + actions + ", undo", k, x.undo());
                checks.due("behind " + actions + ", the minutes", actions - most + k, x.about(1));
            }
            checks.refused("behind " + actions + ", undo of one more", Checks.STATE, x, x::undo);
        }
    }

    private static void oldestIsForgotten() {
        checks.of("when one more is remembered, the oldest one is forgotten");
        MeterRooms x = new MeterRooms();
        x.add(20, 0, 100);
        for (int k = 0; k < 13; k++) {
            x.goods(0, k);
        }
        for (int k = 13; k >= 0; k--) {
            x.undo();
        }
        checks.due("14 actions behind the first state: it is back", 0, x.about(0));
        MeterRooms y = new MeterRooms();
        y.add(20, 0, 100);
        for (int k = 0; k < 14; k++) {
            y.goods(0, k);
        }
        for (int k = 13; k >= 0; k--) {
            y.undo();
        }
        checks.due("15 actions behind it: it is not", 1, y.about(0));
        checks.refused("one more", Checks.STATE, y, y::undo);
        checks.due("the room as it was added", 0, y.room(0, 3));
    }

    private static void undoneMakesPlace() {
        checks.of("At most 14 states are remembered; when one more is remembered, ..");
        MeterRooms x = behind(14);
        checks.due("undo", 13, x.undo());
        x.run(2);
        for (int k = 13; k >= 0; k--) {
            checks.due("undo", k, x.undo());
        }
        checks.due("the oldest is not forgotten", 0, x.about(1));
        x.run(3);
        checks.due("behind all that, a first one", 0, x.undo());
        MeterRooms y = behind(20);
        y.undo();
        y.undo();
        y.run(7);
        y.run(8);
        y.run(9);
        for (int k = 13; k >= 0; k--) {
            checks.due("undo", k, y.undo());
        }
        checks.due("the oldest then", 7, y.about(1));
    }

    private static void actionsThatChangeNothing() {
        checks.of("Each call of one of them that does not throw an exception is an action, "
                + "also if nothing becomes different");
        MeterRooms x = new MeterRooms();
        x.add(20, 5, 100);
        x.door(0, false);
        checks.due("undo of a door that is shut already", 1, x.undo());
        x.goods(0, 5);
        checks.due("undo of goods as warm as the room", 1, x.undo());
        for (int what = 0; what <= 5; what++) {
            x.set(what, x.setting(what));
            checks.due("undo of setting " + what + " to what it is", 1, x.undo());
        }
        for (int k = 0; k < 14; k++) {
            x.set(0, 600);
        }
        for (int k = 13; k >= 0; k--) {
            checks.due("undo", k, x.undo());
        }
        checks.refused("the room is forgotten", Checks.STATE, x, x::undo);
        checks.due("so it stays", 1, x.about(0));
    }

    private static void undoIsNoAction() {
        checks.of("(undo is none)");
        MeterRooms x = behind(3);
        checks.due("undo", 2, x.undo());
        checks.due("undo goes further back, not forward", 1, x.undo());
        checks.due("the minutes", 1, x.about(1));
        checks.due("undo", 0, x.undo());
        checks.due("the minutes", 0, x.about(1));
    }

    private static void refusedCallsAreNoActions() {
        checks.of("A call that throws an exception changes nothing.");
        MeterRooms x = new MeterRooms();
        for (int i = 0; i < 6; i++) {
            x.add(20, 0, 100);
        }
        for (int k = 0; k < 8; k++) {
            x.run(1);
        }
        List<LongSupplier> refused = List.of(() -> x.add(20, 0, 100), () -> x.add(0, 0, 100), () -> x.door(6, true),
                () -> x.goods(6, 0), () -> x.goods(0, 401), () -> x.run(0), () -> x.run(61), () -> x.set(6, 0),
                () -> x.set(0, 10000), x::load, () -> x.restore(0), () -> x.restore(2), () -> x.append(256));
        for (LongSupplier call : refused) {
            checks.same("the call", "throws", Checks.outcome(call).substring(0, 6));
        }
        for (int k = 13; k >= 0; k--) {
            checks.due("undo", k, x.undo());
        }
        checks.due("the oldest is not forgotten", 0, x.about(0));
    }

    private static void questionsAreNoActions() {
        checks.of("The methods in the section \"actions\" change the state");
        MeterRooms x = behind(14);
        List<LongSupplier> questions = List.of(() -> x.about(0), () -> x.setting(0), x::spare, () -> x.coming(240, 0),
                () -> x.leastLimit(60), x::bestShut, () -> x.runScript(1, 30000), () -> x.simulate(1, 60),
                () -> x.save(0), () -> x.append('M'), x::errorPosition, x::clearText);
        for (LongSupplier call : questions) {
            call.getAsLong();
        }
        checks.due("the minutes", 14, x.about(1));
        for (int k = 13; k >= 0; k--) {
            checks.due("undo", k, x.undo());
        }
        checks.due("the oldest is not forgotten", 0, x.about(1));
    }

    private static void stateAheadOfTheAction() {
        checks.of("Before each action, the state is remembered.");
        MeterRooms x = Scenes.defrosted();
        x.door(0, true);
        x.set(0, 300);
        for (int n : new int[] {1, 3, 60}) {
            String before = Checks.picture(x);
            x.run(n);
            x.undo();
            checks.same("undo of run(" + n + ")", before, Checks.picture(x));
        }
        int twice = x.run(60);
        x.undo();
        checks.due("run(60) again", twice, x.run(60));
    }

    /** Two rooms in which all numbers are other ones than at first, and those of the store are so, too. */
    private static MeterRooms used() {
        MeterRooms x = new MeterRooms();
        x.add(20, -10, 100);
        x.add(30, -20, 90);
        x.set(0, 0);
        Scenes.frost(x, 0, 61);
        x.set(4, 50);
        x.goods(1, 89);
        x.run(1);
        x.goods(1, -400);
        x.set(0, 9999);
        x.run(2);
        x.set(1, 3);
        x.set(2, 7);
        x.set(3, 8);
        x.set(5, 9);
        x.door(0, true);
        return x;
    }

    private static void everythingIsOfTheState() {
        checks.of("the state, which consists of everything but the text and the save slots");
        MeterRooms x = used();
        MeterRooms fresh = new MeterRooms();
        for (int what = 0; what <= 10; what++) {
            checks.same("about(" + what + ") is no first number", "false", "" + (x.about(what) == fresh.about(what)));
        }
        for (int what = 0; what <= 5; what++) {
            checks.same("setting(" + what + ") is no first one", "false",
                    "" + (x.setting(what) == fresh.setting(what)));
        }
        for (int what = 0; what <= 7; what++) {
            checks.same("room(0, " + what + ") is not 0", "false", "" + (x.room(0, what) == 0));
        }
        String before = Checks.picture(x);
        x.save(0);
        changeAll(x);
        for (int k = 0; k < 12; k++) {
            x.undo();
        }
        checks.same("undo of all", before, Checks.picture(x));
        changeAll(x);
        x.restore(0);
        checks.same("restore", before, Checks.picture(x));
        Checks.write(x, "M");
        x.load();
        for (int what = 0; what <= 10; what++) {
            checks.due("load of M, about(" + what + ")", fresh.about(what), x.about(what));
        }
        for (int what = 0; what <= 5; what++) {
            checks.due("load of M, setting(" + what + ")", fresh.setting(what), x.setting(what));
        }
    }

    /** Twelve actions, behind which no number of the store or of its rooms is what it was. */
    private static void changeAll(MeterRooms x) {
        x.set(0, 1);
        x.set(1, 1);
        x.set(2, 1);
        x.set(3, 1);
        x.set(4, 1);
        x.set(5, 1);
        x.add(1, 1, 2);
        x.run(60);
        x.goods(0, 150);
        x.run(7);
        x.door(0, false);
        x.set(0, 9999);
    }

    private static void textIsNoPartOfTheState() {
        checks.of("the state, which consists of everything but the text and the save slots");
        MeterRooms x = Checks.withText("Mm0");
        x.run(1);
        x.append('5');
        x.undo();
        checks.due("undo leaves the text", -1, x.errorPosition());
        x.save(0);
        x.append('m');
        x.restore(0);
        checks.due("restore leaves the text", 5, x.errorPosition());
        checks.due("its length", 5, x.clearText());
        x.run(1);
        x.undo();
        checks.due("undo brings no text back", 0, x.clearText());
    }

    private static void slotsAreNoPartOfTheState() {
        checks.of("the state, which consists of everything but the text and the save slots");
        MeterRooms x = behind(3);
        x.save(0);
        x.undo();
        checks.due("undo leaves the slot", 3, x.restore(0));
        x.save(1);
        x.restore(0);
        checks.due("restore leaves the other slot", 3, x.restore(1));
    }

    private static void slotNumbers() {
        checks.of("or that a save slot is not 0 or 1");
        MeterRooms x = behind(3);
        for (int slot : new int[] {-1, 2, 3, Integer.MIN_VALUE, Integer.MAX_VALUE}) {
            checks.refused("save(" + slot + ")", Checks.INDEX, x, () -> x.save(slot));
            checks.refused("restore(" + slot + ")", Checks.INDEX, x, () -> x.restore(slot));
        }
        checks.due("save(0)", 3, x.save(0));
        checks.due("save(1)", 3, x.save(1));
        checks.due("restore(0)", 3, x.restore(0));
        checks.due("restore(1)", 3, x.restore(1));
    }

    private static void emptySlots() {
        checks.of("Throws IllegalStateException if nothing has been saved in it");
        for (int slot = 0; slot <= 1; slot++) {
            MeterRooms x = behind(3);
            int one = slot;
            int other = 1 - slot;
            checks.refused("restore(" + one + ")", Checks.STATE, x, () -> x.restore(one));
            x.save(one);
            checks.refused("restore(" + other + ") with the other full", Checks.STATE, x, () -> x.restore(other));
            checks.due("restore(" + one + ") then", 3, x.restore(one));
        }
    }

    private static void slotBehindLoad() {
        checks.of("since the last load");
        MeterRooms x = Checks.withText("M");
        x.save(0);
        x.append('x');
        checks.refused("load of no store", Checks.STATE, x, x::load);
        checks.due("a load that was refused empties nothing", 0, x.restore(0));
        Checks.write(x, "Mm09");
        x.load();
        checks.refused("restore(0) behind load", Checks.STATE, x, () -> x.restore(0));
        checks.due("save(0)", 9, x.save(0));
        checks.due("restore(0)", 9, x.restore(0));
        x.load();
        checks.refused("restore(0) behind another load", Checks.STATE, x, () -> x.restore(0));
    }

    private static void slotIsNamedFirst() {
        checks.of("If several exceptions apply to a call, the one that its description names first is thrown.");
        MeterRooms x = new MeterRooms();
        checks.refused("restore(2) with nothing saved", Checks.INDEX, x, () -> x.restore(2));
        checks.refused("restore(-1) with nothing saved", Checks.INDEX, x, () -> x.restore(-1));
    }

    private static void restoreForgetsAll() {
        checks.of("and forgets all remembered states");
        for (int actions : new int[] {0, 1, 14, 20}) {
            MeterRooms x = behind(actions);
            x.save(1);
            checks.due("restore(1)", actions, x.restore(1));
            checks.refused("undo then", Checks.STATE, x, x::undo);
            x.run(5);
            checks.due("undo of what follows", 0, x.undo());
            checks.due("the minutes", actions, x.about(1));
        }
    }

    private static void refusedRestoreForgetsNothing() {
        checks.of("A call that throws an exception changes nothing.");
        MeterRooms x = behind(3);
        checks.refused("restore(0)", Checks.STATE, x, () -> x.restore(0));
        checks.refused("restore(2)", Checks.INDEX, x, () -> x.restore(2));
        checks.due("undo", 2, x.undo());
    }

    private static void slotKeepsItsState() {
        checks.of("The save slot keeps it.");
        MeterRooms x = Scenes.defrosted();
        x.set(0, 300);
        x.save(0);
        String saved = Checks.picture(x);
        for (int k = 0; k < 3; k++) {
            x.run(60);
            x.goods(0, 300);
            x.door(0, true);
            x.set(3, 20 + k);
            x.restore(0);
            checks.same("restore(0)", saved, Checks.picture(x));
        }
    }

    private static void slotIsWrittenOver() {
        checks.of("Stores the present state in a save slot.");
        MeterRooms x = behind(1);
        checks.due("save(0)", 1, x.save(0));
        x.run(1);
        checks.due("save(0) again", 2, x.save(0));
        x.run(1);
        checks.due("restore(0)", 2, x.restore(0));
        x.save(1);
        x.run(1);
        x.save(0);
        checks.due("restore(1)", 2, x.restore(1));
        checks.due("restore(0)", 3, x.restore(0));
    }

    private static void minutesOfSlots() {
        checks.of("Returns the minutes so far then.");
        MeterRooms x = new MeterRooms();
        checks.due("save(0) in a new object", 0, x.save(0));
        x.run(60);
        checks.due("save(1)", 60, x.save(1));
        checks.due("restore(0)", 0, x.restore(0));
        checks.due("the minutes", 0, x.about(1));
        checks.due("restore(1)", 60, x.restore(1));
        checks.due("the minutes", 60, x.about(1));
    }

    private static void roomsOfSlots() {
        checks.of("Replaces the state by the one in a save slot");
        MeterRooms x = new MeterRooms();
        x.save(0);
        for (int i = 0; i < 6; i++) {
            x.add(10 + i, i, 100);
        }
        x.save(1);
        String six = Checks.picture(x);
        x.restore(0);
        checks.due("no rooms", 0, x.about(0));
        checks.refused("room 0", Checks.INDEX, x, () -> x.room(0, 0));
        checks.due("a new one", 0, x.add(50, 1, 2));
        x.restore(1);
        checks.same("six rooms", six, Checks.picture(x));
        checks.due("the first", 10, x.room(0, 0));
        checks.due("the sixth", 15, x.room(5, 0));
        checks.refused("a seventh", Checks.STATE, x, () -> x.add(1, 0, 1));
    }

    private static void saveIsNoAction() {
        checks.of("load and restore are not actions.");
        MeterRooms x = behind(2);
        x.save(0);
        x.save(1);
        checks.due("undo behind save", 1, x.undo());
        x.restore(0);
        checks.refused("undo behind restore", Checks.STATE, x, x::undo);
        Checks.write(x, "Mm05");
        x.load();
        checks.refused("undo behind load", Checks.STATE, x, x::undo);
    }
}
