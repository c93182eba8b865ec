import java.util.function.LongSupplier;

/** Counts the checks of one test, prints those that go wrong, and ends the test. */
final class Checks {
    static final Class<IllegalArgumentException> ARGUMENT = IllegalArgumentException.class;
    static final Class<IllegalStateException> STATE = IllegalStateException.class;
    static final Class<IndexOutOfBoundsException> INDEX = IndexOutOfBoundsException.class;

    private final String name;
    private String sentence = "";
    private int made;
    private int wrong;

    Checks(String name) {
        this.name = name;
    }

    /** The checks that follow are of these words of the document; they are printed with each that goes wrong. */
    void of(String words) {
        sentence = "\"" + words + "\": ";
    }

    void due(String what, long want, long got) {
        same(what, Long.toString(want), Long.toString(got));
    }

    void same(String what, String want, String got) {
        made++;
        if (!want.equals(got)) {
            wrong++;
            System.out.println(name + ": " + sentence + what + ": due is " + want + ", but it is " + got);
        }
    }

    /** The call throws exactly this exception, and changes nothing that can be read. */
    void refused(String what, Class<? extends RuntimeException> want, MeterRooms x, LongSupplier call) {
        String before = picture(x);
        same(what, "throws." + want.getSimpleName(), outcome(call));
        same(what + " changes nothing", before, picture(x));
    }

    static String outcome(LongSupplier call) {
        try {
            return Long.toString(call.getAsLong());
        } catch (RuntimeException e) {
            return "throws." + e.getClass().getSimpleName();
        }
    }

    /** All of the state that can be read without changing it. */
    static String picture(MeterRooms x) {
        StringBuilder seen = new StringBuilder("about");
        for (int what = 0; what <= 10; what++) {
            seen.append(' ').append(x.about(what));
        }
        seen.append(" settings");
        for (int what = 0; what <= 5; what++) {
            seen.append(' ').append(x.setting(what));
        }
        for (int i = 0; i < x.about(0); i++) {
            seen.append(" room");
            for (int what = 0; what <= 7; what++) {
                seen.append(' ').append(x.room(i, what));
            }
            seen.append(" does ").append(x.does(i));
        }
        return seen.append(" text ").append(x.errorPosition()).toString();
    }

    static MeterRooms withText(String text) {
        MeterRooms x = new MeterRooms();
        write(x, text);
        return x;
    }

    static void write(MeterRooms x, String text) {
        x.clearText();
        for (int i = 0; i < text.length(); i++) {
            x.append(text.charAt(i));
        }
    }

    void end() {
        System.out.println(name + ": " + made + " checks, " + wrong + " wrong");
        if (wrong != 0 || made == 0) {
            System.exit(1);
        }
    }
}
