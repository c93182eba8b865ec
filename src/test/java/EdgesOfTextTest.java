/** The boundaries in TEXT, and in promises 2 to 5. */
public final class EdgesOfTextTest {
    private static final Checks checks = new Checks("EdgesOfTextTest");

    /** A store of just 120 characters: M, ten rooms of 11 characters each, and three times a minute. */
    private static final String FULL = "M" + "r10-001+001".repeat(10) + "m01m02m60";

    public static void main(String[] args) {
        characterCodes();
        mostCharacters();
        fullNamesArgumentsFirst();
        lengths();
        letterM();
        anyNumberOfCommands();
        loadsOfTwoDigits();
        minutesOfTwoDigits();
        digitsOfRooms();
        limitsOfFourDigits();
        temperatures();
        temperatureOfTheBound();
        signsOfTemperatures();
        noBlanks();
        digitsAlone();
        otherLetters();
        textEndsTooSoon();
        lastOf120();
        firstOfSeveralErrors();
        textIsReadAnew();
        loadOfNoStore();
        loadOfNothingButM();
        loadOfFull();
        leftOutRooms();
        leftOutDoors();
        allLeftOut();
        asInANewObject();
        nothingIsRemembered();
        slotsAreEmpty();
        keepsTheText();
        checks.end();
    }

    private static void error(String text, int want) {
        checks.due("errorPosition of '" + text + "'", want, Checks.withText(text).errorPosition());
    }

    private static void characterCodes() {
        checks.of("c: character code, 0 to 255");
        MeterRooms x = new MeterRooms();
        for (int c : new int[] {-1, -2, 256, 257, Integer.MIN_VALUE, Integer.MAX_VALUE, 'M' + 256, 'M' + 65536}) {
            checks.refused("append(" + c + ")", Checks.ARGUMENT, x, () -> x.append(c));
        }
        int[] allowed = {0, 1, 127, 128, 254, 255};
        for (int k = 0; k < allowed.length; k++) {
            checks.due("append(" + allowed[k] + ")", k + 1, x.append(allowed[k]));
        }
    }

    private static void mostCharacters() {
        checks.of("The object has a text buffer of at most 120 characters.");
        MeterRooms x = new MeterRooms();
        for (int length = 1; length <= 120; length++) {
            checks.due("append", length, x.append(FULL.charAt(length - 1)));
        }
        checks.due("the whole text is a store", -1, x.errorPosition());
        checks.refused("append of a 121st", Checks.STATE, x, () -> x.append('o'));
        checks.refused("append of a 121st", Checks.STATE, x, () -> x.append(0));
        checks.due("the whole text is a store", -1, x.errorPosition());
        checks.due("the length then", 120, x.clearText());
        checks.due("behind that append is allowed", 1, x.append('M'));
    }

    private static void fullNamesArgumentsFirst() {
        checks.of("If several exceptions apply to a call, the one that its description names first is thrown.");
        MeterRooms x = Checks.withText(FULL);
        checks.refused("append(-1) to 120", Checks.ARGUMENT, x, () -> x.append(-1));
        checks.refused("append(256) to 120", Checks.ARGUMENT, x, () -> x.append(256));
        checks.refused("append(255) to 120", Checks.STATE, x, () -> x.append(255));
        checks.refused("append(0) to 120", Checks.STATE, x, () -> x.append(0));
    }

    private static void lengths() {
        checks.of("Returns the previous length of the text.");
        MeterRooms x = new MeterRooms();
        checks.due("of a new object", 0, x.clearText());
        x.append('M');
        checks.due("of one character", 1, x.clearText());
        checks.due("of none", 0, x.clearText());
        Checks.write(x, FULL.substring(0, 119));
        checks.due("of 119", 119, x.clearText());
        Checks.write(x, FULL);
        checks.due("of 120", 120, x.clearText());
        checks.due("of none again", 0, x.clearText());
    }

    private static void letterM() {
        checks.of("A store as a text is the letter M, and then any number of commands");
        error("", 0);
        error("M", -1);
        error("m", 0);
        error("L", 0);
        error("N", 0);
        error("o0", 0);
        error("MM", 1);
        error("Mo0M", 3);
        error("\u0000", 0);
        error("\u00ff", 0);
    }

    private static void anyNumberOfCommands() {
        checks.of("and then any number of commands");
        for (int count = 0; count <= 59; count++) {
            error("M" + "o0".repeat(count), -1);
        }
    }

    private static void loadsOfTwoDigits() {
        checks.of("r, two digits for a load (01 to 50)");
        for (int load = 0; load <= 99; load++) {
            String text = "Mr" + load / 10 + load % 10 + "+000+001";
            error(text, load > 59 ? 2 : load == 0 || load > 50 ? 3 : -1);
            if (load >= 1 && load <= 50) {
                MeterRooms x = Checks.withText(text);
                checks.due("load", 0, x.load());
                checks.due("its load", load, x.room(0, 0));
            }
        }
    }

    private static void minutesOfTwoDigits() {
        checks.of("m and two digits (01 to 60)");
        for (int minutes = 0; minutes <= 99; minutes++) {
            String text = "Mm" + minutes / 10 + minutes % 10;
            error(text, minutes > 69 ? 2 : minutes == 0 || minutes > 60 ? 3 : -1);
            if (minutes >= 1 && minutes <= 60) {
                MeterRooms x = Checks.withText(text);
                checks.due("load", 0, x.load());
                checks.due("the minutes", minutes, x.about(1));
            }
        }
    }

    private static void digitsOfRooms() {
        checks.of("o and a digit for a room (0 to 5) .. z and a digit for a room");
        for (int digit = 0; digit <= 9; digit++) {
            error("Mo" + digit, digit <= 5 ? -1 : 2);
            error("Mz" + digit, digit <= 5 ? -1 : 2);
        }
        error("Mo00", 3);
        error("Mz50", 3);
        for (int i = 0; i <= 5; i++) {
            MeterRooms x = Checks.withText("M" + "r10+000+001".repeat(6) + "o" + i);
            checks.due("load", 0, x.load());
            for (int k = 0; k <= 5; k++) {
                checks.due("o" + i + ", the door of " + k, k == i ? 1 : 0, x.room(k, 4));
            }
            Checks.write(x, "M" + "r10+000+001".repeat(6) + "o0o1o2o3o4o5z" + i);
            checks.due("load", 0, x.load());
            for (int k = 0; k <= 5; k++) {
                checks.due("z" + i + ", the door of " + k, k == i ? 0 : 1, x.room(k, 4));
            }
        }
    }

    private static void limitsOfFourDigits() {
        checks.of("l and four digits (0000 to 9999)");
        for (int limit : new int[] {0, 1, 10, 100, 999, 1000, 9998, 9999}) {
            String text = "Ml" + String.format("%04d", limit);
            error(text, -1);
            MeterRooms x = Checks.withText(text);
            checks.due("load", 0, x.load());
            checks.due("the limit", limit, x.setting(0));
        }
        error("Ml000", 5);
        error("Ml00000", 6);
        error("Ml99990", 6);
    }

    private static void temperatures() {
        checks.of("A temperature is the sign + or -, and three digits: -300 to +200");
        for (int v = 0; v <= 999; v++) {
            String digits = String.format("%03d", v);
            int above = v >= 300 ? 5 : v >= 210 ? 6 : v > 200 ? 7 : 8;
            error("Mr10+" + digits, above);
            int below = v >= 400 ? 5 : v >= 310 ? 6 : v > 300 ? 7 : 8;
            error("Mr10-" + digits, below);
        }
        MeterRooms x = Checks.withText("Mr10-300-299r10+199+200r10-001+000r10-000+001r10+000+001r10-300+200");
        checks.due("load", 0, x.load());
        int[] due = {-300, -299, 199, 200, -1, 0, 0, 1, 0, 1, -300, 200};
        for (int i = 0; i < 6; i++) {
            checks.due("the wish of room " + i, due[2 * i], x.room(i, 1));
            checks.due("the bound of room " + i, due[2 * i + 1], x.room(i, 2));
        }
    }

    private static void temperatureOfTheBound() {
        checks.of("a temperature for the wish, and one for the bound");
        error("Mr10-300+200", -1);
        error("Mr10-300+201", 11);
        error("Mr10-300+210", 10);
        error("Mr10-300+300", 9);
        error("Mr10+200-300", -1);
        error("Mr10+200-301", 11);
        error("Mr10+200-310", 10);
        error("Mr10+200-400", 9);
        error("Mr10+000-000", -1);
        error("Mr10+000+0000", 12);
    }

    private static void signsOfTemperatures() {
        checks.of("A temperature is the sign + or -");
        for (String sign : new String[] {"0", "1", "*", ",", ".", " ", "r", "M"}) {
            error("Mr10" + sign + "000+001", 4);
            error("Mr10+000" + sign + "001", 8);
        }
        error("Mr10++00", 5);
        error("Mr10-+00", 5);
        error("Mr10+0-0", 6);
        error("Mr10+00+", 7);
    }

    private static void noBlanks() {
        checks.of("There are no blanks.");
        String text = "Mr20-200-150o0z5m60l9999";
        for (int at = 0; at <= text.length(); at++) {
            error(text.substring(0, at) + " " + text.substring(at), at);
        }
    }

    private static void digitsAlone() {
        checks.of("the index of the first character that these rules do not allow at its place");
        String text = "Mr20-200-150o0z5m60l9999";
        for (int at = 2; at < text.length(); at++) {
            if (Character.isDigit(text.charAt(at))) {
                for (char wrong : new char[] {'0' - 1, '9' + 1, 0, 255, 'M', '+', '-', '0' + 128}) {
                    error(text.substring(0, at) + wrong + text.substring(at + 1), at);
                }
            }
        }
    }

    private static void otherLetters() {
        checks.of("then any number of commands: r, .. o .. z .. m .. l ..");
        for (int c = 0; c <= 255; c++) {
            boolean command = "rozml".indexOf(c) >= 0;
            error("M" + (char) c, command ? 2 : 1);
            error("Mo0" + (char) c, command ? 4 : 3);
        }
    }

    private static void textEndsTooSoon() {
        checks.of("if the text ends too soon, it is the length of the text");
        String text = "Mr20-200-150o0z5m60l9999r01+000+001";
        String ends = " 1 12 14 16 19 24 35 ";
        for (int length = 0; length <= text.length(); length++) {
            error(text.substring(0, length), ends.contains(" " + length + " ") ? -1 : length);
        }
    }

    private static void lastOf120() {
        checks.of("The error position is the index of the first character that these rules do not allow at its place");
        error(FULL, -1);
        error(FULL.substring(0, 119), 119);
        error(FULL.substring(0, 119) + "1", 119);
        error(FULL.substring(0, 119) + "x", 119);
        error("M" + "o0".repeat(59) + "o", 120);
        error("M" + "o0".repeat(59) + "x", 119);
        error("M" + "o0".repeat(59) + "0", 119);
        error("x" + FULL.substring(1), 0);
    }

    private static void firstOfSeveralErrors() {
        checks.of("the first character that these rules do not allow");
        error("xx", 0);
        error("Mxx", 1);
        error("Mo9o9", 2);
        error("Mo0o9z9", 4);
        error("Mr00+900", 3);
        error("Mr10+201+201", 7);
    }

    private static void textIsReadAnew() {
        checks.of("The text is read from left to right.");
        MeterRooms x = new MeterRooms();
        String text = "Mo0x";
        int[] due = {0, -1, 2, -1, 3};
        for (int k = 0; k <= text.length(); k++) {
            if (k > 0) {
                x.append(text.charAt(k - 1));
            }
            checks.due("errorPosition behind " + k + " characters", due[k], x.errorPosition());
            checks.due("errorPosition again", due[k], x.errorPosition());
        }
    }

    private static void loadOfNoStore() {
        checks.of("Throws IllegalStateException if the text is not a store");
        for (String text : new String[] {"", "m", "Mo", "Mr10+000+00", "Mo6", "MM", FULL.substring(0, 119) + "x"}) {
            MeterRooms x = Checks.withText(text);
            x.add(10, 0, 1);
            x.run(7);
            x.save(0);
            x.run(8);
            checks.refused("load of '" + text + "'", Checks.STATE, x, x::load);
            checks.due("the states are remembered still", 2, x.undo());
            checks.due("the slot is full still", 7, x.restore(0));
            checks.due("the text stays", text.length(), x.clearText());
        }
    }

    private static void loadOfNothingButM() {
        checks.of("Returns the number of commands that are left out.");
        MeterRooms x = Checks.withText("M");
        x.add(10, 0, 1);
        checks.due("load of M", 0, x.load());
        checks.due("no room", 0, x.about(0));
    }

    private static void loadOfFull() {
        checks.of("Makes everything as in a new object, and then does the commands of the text.");
        MeterRooms x = Checks.withText(FULL);
        checks.due("four rooms are left out", 4, x.load());
        checks.due("six are not", 6, x.about(0));
        checks.due("the minutes", 63, x.about(1));
        MeterRooms y = Checks.withText("M" + "o0".repeat(59));
        checks.due("59 doors are left out", 59, y.load());
        MeterRooms z = Checks.withText("M" + "l0001".repeat(23) + "l023");
        checks.due("120 characters that end too soon", 120, z.errorPosition());
        checks.refused("which is no store", Checks.STATE, z, z::load);
        Checks.write(z, "M" + "m01".repeat(38) + "l0234");
        checks.due("load of the last command, too", 0, z.load());
        checks.due("the limit", 234, z.setting(0));
        checks.due("the minutes", 38, z.about(1));
    }

    private static void leftOutRooms() {
        checks.of("Commands that would throw an exception are left out.");
        String[] left = {"r10+000+000", "r10+001+000", "r10-300-300", "r10+200+200", "r10-000+000", "r10-299-300"};
        for (String command : left) {
            MeterRooms x = Checks.withText("M" + command + "m01");
            checks.due(command, 1, x.load());
            checks.due("the rooms", 0, x.about(0));
            checks.due("the command behind it is done", 1, x.about(1));
        }
        String[] done = {"r10+000+001", "r10-300-299", "r10+199+200", "r10-001-000"};
        for (String command : done) {
            MeterRooms x = Checks.withText("M" + command);
            checks.due(command, 0, x.load());
            checks.due("the rooms", 1, x.about(0));
        }
        MeterRooms six = Checks.withText("M" + "r10+000+001".repeat(6));
        checks.due("six rooms", 0, six.load());
        MeterRooms seven = Checks.withText("M" + "r10+000+001".repeat(6) + "r20+000+001");
        checks.due("seven rooms", 1, seven.load());
        checks.due("the rooms", 6, seven.about(0));
        checks.due("the load of the sixth", 10, seven.room(5, 0));
        MeterRooms both = Checks.withText("M" + "r10+000+001".repeat(6) + "r20+001+000");
        checks.due("a seventh that is wrong is one command", 1, both.load());
    }

    private static void leftOutDoors() {
        checks.of("Commands that would throw an exception are left out.");
        for (int rooms = 0; rooms <= 6; rooms++) {
            String some = "r10+000+001".repeat(rooms);
            for (String kind : new String[] {"o", "z"}) {
                MeterRooms x = Checks.withText("M" + some + (rooms > 0 ? kind + (rooms - 1) : ""));
                checks.due(kind + " of the last of " + rooms, 0, x.load());
                if (rooms < 6) {
                    MeterRooms y = Checks.withText("M" + some + kind + rooms);
                    checks.due(kind + " behind the last of " + rooms, 1, y.load());
                }
            }
        }
    }

    private static void allLeftOut() {
        checks.of("Returns the number of commands that are left out.");
        MeterRooms x = Checks.withText("Mo0z0r10+001+001r10+001+000");
        checks.due("all four", 4, x.load());
        checks.same("it is as new", Checks.picture(Checks.withText("M")), Checks.picture(x));
        MeterRooms y = Checks.withText("Mo0r10+000+001o0o1");
        checks.due("those that a later room would not have left out", 2, y.load());
        checks.due("its door", 1, y.room(0, 4));
    }

    private static void asInANewObject() {
        checks.of("Makes everything as in a new object");
        MeterRooms x = Checks.withText("M");
        int[] most = {9999, 14, 99, 50, 100, 30};
        for (int i = 0; i < 6; i++) {
            x.add(50, -300, -299);
            x.door(i, true);
            x.goods(i, 400);
        }
        for (int what = 0; what <= 5; what++) {
            x.set(what, most[what]);
        }
        x.set(0, 0);
        x.run(60);
        x.run(60);
        x.run(7);
        checks.due("load", 0, x.load());
        checks.same("it is as new", Checks.picture(Checks.withText("M")), Checks.picture(x));
        checks.due("a room that is added", 0, x.add(7, 3, 4));
        int[] due = {7, 3, 4, 3, 0, 0, 0, 0};
        for (int what = 0; what <= 7; what++) {
            checks.due("room(0, " + what + ")", due[what], x.room(0, what));
        }
    }

    private static void nothingIsRemembered() {
        checks.of("Behind it no state is remembered");
        MeterRooms x = Checks.withText("Mm01m02m03");
        for (int k = 0; k < 20; k++) {
            x.run(1);
        }
        checks.due("load", 0, x.load());
        checks.refused("undo", Checks.STATE, x, x::undo);
        checks.due("the minutes", 6, x.about(1));
        for (int k = 0; k < 14; k++) {
            x.run(1);
        }
        for (int k = 13; k >= 0; k--) {
            checks.due("undo of an action behind it", k, x.undo());
        }
        checks.due("the minutes", 6, x.about(1));
        checks.refused("undo of load", Checks.STATE, x, x::undo);
    }

    private static void slotsAreEmpty() {
        checks.of("and both save slots are empty");
        MeterRooms x = Checks.withText("Mm05");
        x.save(0);
        x.save(1);
        x.load();
        checks.refused("restore(0)", Checks.STATE, x, () -> x.restore(0));
        checks.refused("restore(1)", Checks.STATE, x, () -> x.restore(1));
        checks.due("save(0)", 5, x.save(0));
        checks.due("restore(0)", 5, x.restore(0));
        checks.refused("restore(1)", Checks.STATE, x, () -> x.restore(1));
    }

    private static void keepsTheText() {
        checks.of("Keeps the text.");
        MeterRooms x = Checks.withText("Mo0m05");
        checks.due("load", 1, x.load());
        checks.due("load again", 1, x.load());
        checks.due("the minutes of one load", 5, x.about(1));
        checks.due("append", 7, x.append('m'));
        checks.refused("load of the longer one", Checks.STATE, x, x::load);
        checks.due("the length", 7, x.clearText());
    }
}
