/** Promises 23 and 24: save, restore. */
public final class SlotsTest {
    private static final Checks checks = new Checks("SlotsTest");

    public static void main(String[] args) {
        wrongSlots();
        saveAndRestore();
        slotsAreApart();
        restoreForgets();
        saveIsNoAction();
        textStays();
        checks.end();
    }

    private static void wrongSlots() {
        MeterRooms x = new MeterRooms();
        for (int slot : new int[] {-1, 2, 3, Integer.MIN_VALUE, Integer.MAX_VALUE}) {
            checks.refused("23: save(" + slot + ")", Checks.INDEX, x, () -> x.save(slot));
            checks.refused("24: restore(" + slot + ")", Checks.INDEX, x, () -> x.restore(slot));
        }
        checks.refused("24: restore(0) of nothing", Checks.STATE, x, () -> x.restore(0));
        checks.due("23: save(0)", 0, x.save(0));
        checks.refused("24: restore(1) of nothing", Checks.STATE, x, () -> x.restore(1));
        checks.due("24: restore(0)", 0, x.restore(0));
    }

    private static MeterRooms busy() {
        MeterRooms x = Checks.withText("Mr20-200-150r30+020+060r10+100+140l0200o0o2m60z2l0700m60l0100m40");
        x.load();
        return x;
    }

    private static void saveAndRestore() {
        MeterRooms x = busy();
        checks.due("23: save(1)", 160, x.save(1));
        String saved = Checks.picture(x);
        x.add(9, 9, 10);
        x.door(0, false);
        x.goods(1, -7);
        x.set(0, 9999);
        x.set(1, 3);
        x.set(2, 33);
        x.set(3, 44);
        x.set(4, 55);
        x.set(5, 22);
        x.run(60);
        checks.due("24: restore(1)", 160, x.restore(1));
        checks.same("24: the state then", saved, Checks.picture(x));
        x.run(17);
        checks.due("24: restore(1) again, as the slot keeps it", 160, x.restore(1));
        checks.same("24: the state then", saved, Checks.picture(x));
        MeterRooms y = busy();
        checks.due("24: it goes on as the saved one", y.run(60), x.run(60));
        checks.same("24: it goes on as the saved one", Checks.picture(y), Checks.picture(x));
    }

    private static void slotsAreApart() {
        MeterRooms x = new MeterRooms();
        x.run(3);
        checks.due("23: save(0)", 3, x.save(0));
        x.run(4);
        checks.due("23: save(1)", 7, x.save(1));
        x.run(5);
        checks.due("24: restore(0)", 3, x.restore(0));
        checks.due("24: the minutes", 3, x.about(1));
        checks.due("24: restore(1)", 7, x.restore(1));
        checks.due("24: the minutes", 7, x.about(1));
        x.run(1);
        checks.due("23: save(0) over the old one", 8, x.save(0));
        x.run(1);
        checks.due("24: restore(0)", 8, x.restore(0));
        checks.due("24: restore(1)", 7, x.restore(1));
    }

    private static void restoreForgets() {
        MeterRooms x = new MeterRooms();
        x.run(3);
        x.save(0);
        x.run(4);
        checks.refused("24: restore(1) of nothing", Checks.STATE, x, () -> x.restore(1));
        checks.due("24: which forgets nothing", 1, x.undo());
        x.restore(0);
        checks.refused("24: undo behind restore", Checks.STATE, x, x::undo);
        x.run(2);
        checks.due("24: undo of an action behind restore", 0, x.undo());
        checks.due("24: the minutes then", 3, x.about(1));
        x.set(0, 1);
        x.undo();
        x.run(9);
        x.undo();
        checks.due("24: undo does not change the slot", 3, x.restore(0));
    }

    private static void saveIsNoAction() {
        MeterRooms x = new MeterRooms();
        x.run(3);
        x.run(4);
        x.save(0);
        checks.due("23: undo behind save", 1, x.undo());
        checks.due("23: the minutes then", 3, x.about(1));
        checks.due("24: restore behind undo", 7, x.restore(0));
    }

    private static void textStays() {
        MeterRooms x = new MeterRooms();
        Checks.write(x, "Mm1");
        x.save(0);
        x.append('0');
        x.restore(0);
        checks.due("24: the text is no part of the state", 4, x.clearText());
        x.restore(0);
        checks.due("24: the text is no part of the state", 0, x.errorPosition());
    }
}
