/** Promises 2 to 5: append, clearText, errorPosition, load. */
public final class TextTest {
    private static final Checks checks = new Checks("TextTest");

    public static void main(String[] args) {
        append();
        clearText();
        errorPosition();
        numbersInTexts();
        load();
        loadLeavesOut();
        loadIsNoAction();
        loadEmptiesSlots();
        checks.end();
    }

    private static void append() {
        MeterRooms x = new MeterRooms();
        checks.refused("2: append(-1)", Checks.ARGUMENT, x, () -> x.append(-1));
        checks.refused("2: append(256)", Checks.ARGUMENT, x, () -> x.append(256));
        checks.refused("2: append(MIN)", Checks.ARGUMENT, x, () -> x.append(Integer.MIN_VALUE));
        checks.due("2: append(0)", 1, x.append(0));
        checks.due("2: append(255)", 2, x.append(255));
        for (int length = 3; length <= 120; length++) {
            checks.due("2: append", length, x.append('M'));
        }
        checks.refused("2: append to 120", Checks.STATE, x, () -> x.append('M'));
        checks.refused("2: append(256) to 120", Checks.ARGUMENT, x, () -> x.append(256));
        checks.due("2: the length then", 120, x.clearText());
    }

    private static void clearText() {
        MeterRooms x = new MeterRooms();
        checks.due("3: clearText of a new object", 0, x.clearText());
        Checks.write(x, "Mo1");
        checks.due("3: clearText", 3, x.clearText());
        checks.due("3: clearText again", 0, x.clearText());
        checks.due("3: append behind it", 1, x.append('M'));
        checks.due("3: the old text is gone", -1, x.errorPosition());
    }

    private static void error(String text, int want) {
        checks.due("4: errorPosition of " + text, want, Checks.withText(text).errorPosition());
    }

    private static void errorPosition() {
        error("", 0);
        error("m", 0);
        error("N", 0);
        error("M", -1);
        error("MM", 1);
        error("M ", 1);
        error("Mr", 2);
        error("Mr12+010+02", 11);
        error("Mr12+010+020", -1);
        error("Mr12+010+020 ", 12);
        error("Mr12-010-020o0z5m60l9999", -1);
        error("Mr12 010+020", 4);
        error("Mr12+010020", 8);
        error("Mo", 2);
        error("Mo0", -1);
        error("Mo5z0", -1);
        error("Mo6", 2);
        error("Mz6", 2);
        error("Moo", 2);
        error("Mo00", 3);
        error("Mx", 1);
        error("M\u00ff", 1);
        error("Ml0000", -1);
        error("Ml000", 5);
        error("Ml00000", 6);
        error("Ml99:9", 4);
        error("Ml99/9", 4);
    }

    private static void numbersInTexts() {
        error("Mm01m60", -1);
        error("Mm00", 3);
        error("Mm0", 3);
        error("Mm59", -1);
        error("Mm61", 3);
        error("Mm7", 2);
        error("Mr01+000-000", -1);
        error("Mr00", 3);
        error("Mr50+000", 8);
        error("Mr51", 3);
        error("Mr6", 2);
        error("Mr10+200-300", -1);
        error("Mr10+199-299", -1);
        error("Mr10+2", 6);
        error("Mr10+21", 6);
        error("Mr10+201", 7);
        error("Mr10+3", 5);
        error("Mr10-31", 6);
        error("Mr10-301", 7);
        error("Mr10-4", 5);
        error("Mr10+000+300", 9);
        error("Mr10+000-301", 11);
        MeterRooms x = Checks.withText("Mr50-300+200r01-000+001");
        checks.due("5: load", 0, x.load());
        checks.due("5: load of the first room", 50, x.room(0, 0));
        checks.due("5: its wish", -300, x.room(0, 1));
        checks.due("5: its bound", 200, x.room(0, 2));
        checks.due("5: load of the second room", 1, x.room(1, 0));
        checks.due("5: its wish", 0, x.room(1, 1));
        checks.due("5: its bound", 1, x.room(1, 2));
    }

    private static void load() {
        MeterRooms x = Checks.withText("Mr20-200-150r30+020+060o1o0z0l0700m20");
        x.set(5, 9);
        x.add(1, 1, 2);
        x.run(40);
        checks.due("5: load", 0, x.load());
        MeterRooms y = new MeterRooms();
        y.add(20, -200, -150);
        y.add(30, 20, 60);
        y.door(1, true);
        y.door(0, true);
        y.door(0, false);
        y.set(0, 700);
        y.run(20);
        Checks.write(y, "M");
        checks.same("5: what load does", Checks.picture(y), Checks.picture(x));
        checks.due("5: load keeps the text", 37, x.clearText());

        MeterRooms z = Checks.withText("Mr20-200-1500");
        z.add(5, 0, 1);
        z.save(1);
        checks.refused("5: load of no store", Checks.STATE, z, z::load);
        checks.due("5: the slot then", 0, z.restore(1));
        Checks.write(z, "");
        z.set(2, 7);
        checks.refused("5: load of nothing", Checks.STATE, z, z::load);
        checks.due("5: what is remembered then", 0, z.undo());
        Checks.write(z, "M");
        checks.due("5: load of an empty store", 0, z.load());
        checks.same("5: it is as new", Checks.picture(Checks.withText("M")), Checks.picture(z));
    }

    private static void loadLeavesOut() {
        MeterRooms x = Checks.withText("Mo0r10+010+010r10+010+009z0r10+010+011o0o1z1z5m05");
        checks.due("5: commands left out", 7, x.load());
        checks.due("5: the rooms then", 1, x.about(0));
        checks.due("5: the door then", 1, x.room(0, 4));
        checks.due("5: the minutes then", 5, x.about(1));

        MeterRooms y = Checks.withText("Mr01-300-299r02-300-299r03-300-299r04-300-299r05-300-299r06-300-299r07-300-299o5");
        checks.due("5: a seventh room is left out", 1, y.load());
        checks.due("5: six rooms", 6, y.about(0));
        checks.due("5: the sixth room", 6, y.room(5, 0));
        checks.due("5: its door", 1, y.room(5, 4));
    }

    private static void loadIsNoAction() {
        MeterRooms x = Checks.withText("Mr20-200-150m10");
        x.run(3);
        x.run(4);
        x.load();
        checks.refused("5: undo behind load", Checks.STATE, x, x::undo);
        x.run(1);
        checks.due("5: undo of an action behind load", 0, x.undo());
        checks.due("5: back to what load made", 10, x.about(1));
    }

    private static void loadEmptiesSlots() {
        MeterRooms x = Checks.withText("Mm10");
        x.save(0);
        x.save(1);
        x.load();
        checks.refused("5: restore(0) behind load", Checks.STATE, x, () -> x.restore(0));
        checks.refused("5: restore(1) behind load", Checks.STATE, x, () -> x.restore(1));
        checks.due("5: save behind load", 10, x.save(1));
        checks.due("5: restore(1) then", 10, x.restore(1));
    }
}
