import java.util.function.ToIntFunction;

/** Promises 16 to 20: spare, warmIn, coming, leastLimit, bestShut. */
public final class ForecastTest {
    private static final Checks checks = new Checks("ForecastTest");

    public static void main(String[] args) {
        spare();
        warmIn();
        coming();
        comingOfRooms();
        warmestRoom();
        leastLimit();
        leastLimitOfRooms();
        leastLimitOfNone();
        bestShut();
        bestShutAlone();
        nothingChanges();
        checks.end();
    }

    private static void spare() {
        MeterRooms x = new MeterRooms();
        checks.due("16: 600 / 15 - 10", 30, x.spare());
        x.set(0, 164);
        checks.due("16: 164 / 15 - 10", 0, x.spare());
        x.set(0, 165);
        checks.due("16: 165 / 15 - 10", 1, x.spare());
        x.set(0, 150);
        checks.due("16: just 0", 0, x.spare());
        x.set(0, 149);
        checks.due("16: not even 0", -1, x.spare());
        x.set(2, 0);
        checks.due("16: 149 / 15", 9, x.spare());
        x.set(0, 9999);
        x.set(1, 14);
        checks.due("16: all in one minute", 9999, x.spare());
        x.set(1, 0);
        x.set(2, 10);
        x.run(10);
        x.set(0, 100);
        checks.due("16: nothing is left of it", -1, x.spare());
        x.set(2, 0);
        checks.due("16: without others 0 fits", 0, x.spare());
        x.set(0, 99);
        checks.due("16: but not behind a sum above the limit", -1, x.spare());
        x.set(0, 600);
        checks.due("16: 500 / 5", 100, x.spare());
        x.add(50, 0, 1);
        x.goods(0, 400);
        checks.due("16: ahead of what must run", 100, x.spare());
    }

    private static void warmIn() {
        MeterRooms x = new MeterRooms();
        checks.refused("17: warmIn(0) without rooms", Checks.INDEX, x, () -> x.warmIn(0));
        x.set(0, 0);
        x.add(20, -300, -60);
        x.add(20, -300, -59);
        x.add(20, -300, -299);
        checks.refused("17: warmIn(3)", Checks.INDEX, x, () -> x.warmIn(3));
        checks.refused("17: warmIn(-1)", Checks.INDEX, x, () -> x.warmIn(-1));
        checks.due("17: in 240 minutes", 240, x.warmIn(0));
        checks.due("17: not by then", -1, x.warmIn(1));
        checks.due("17: in a minute", 1, x.warmIn(2));
        x.goods(1, -298);
        checks.due("17: in 239", 239, x.warmIn(1));
        x.goods(1, -59);
        checks.due("17: now", 0, x.warmIn(1));
        x.goods(1, 400);
        checks.due("17: now", 0, x.warmIn(1));
        x.door(0, true);
        checks.due("17: with an open door", 48, x.warmIn(0));
        x.set(0, 9999);
        x.set(4, 100);
        x.door(0, false);
        checks.due("17: never, as it is cooled", -1, x.warmIn(0));
    }

    private static void coming() {
        MeterRooms x = new MeterRooms();
        int[][] wrong = {{0, 0}, {241, 0}, {-1, 4}, {1, -1}, {1, 5}, {0, 5}, {Integer.MAX_VALUE, 0},
            {1, Integer.MIN_VALUE}};
        for (int[] w : wrong) {
            checks.refused("18: coming(" + w[0] + ", " + w[1] + ")", Checks.ARGUMENT, x, () -> x.coming(w[0], w[1]));
        }
        x.set(0, 149);
        x.run(31);
        checks.due("18: the units of a minute", 10, x.coming(1, 0));
        checks.due("18: the units of 240 minutes", 2400, x.coming(240, 0));
        checks.due("18: no quarter hour in 13 minutes", 0, x.coming(13, 1));
        checks.due("18: one in 14", 1, x.coming(14, 1));
        checks.due("18: 16 in 240", 16, x.coming(240, 1));
        checks.due("18: no defrosts", 0, x.coming(240, 2));
        checks.due("18: no waits", 0, x.coming(240, 3));
        checks.due("18: no warmest room", -1, x.coming(240, 4));
        x.set(0, 150);
        checks.due("18: none passes the limit", 0, x.coming(240, 1));
    }

    private static void comingOfRooms() {
        MeterRooms x = new MeterRooms();
        x.add(20, 0, 200);
        x.set(0, 0);
        x.run(3);
        checks.due("the waits so far", 2, x.about(8));
        checks.due("18: it waits", 10, x.coming(10, 3));
        checks.due("18: and takes nothing", 120, x.coming(12, 0));
        x.goods(0, 199);
        checks.due("18: the units of one wait and two that must", 10 + 30 + 10, x.coming(3, 0));
        checks.due("18: the waits of it", 2, x.coming(3, 3));
        x.goods(0, -400);
        x.door(0, true);
        x.set(4, 10);
        x.set(0, 9999);
        checks.due("18: no defrost in 5 minutes", 0, x.coming(5, 2));
        checks.due("18: one in 6", 1, x.coming(6, 2));
        x.run(6);
        checks.due("18: only those that begin then", 0, x.coming(5, 2));
        checks.due("18: only those that begin then", 1, x.coming(6, 2));
    }

    private static void warmestRoom() {
        MeterRooms x = new MeterRooms();
        x.set(0, 0);
        x.add(20, -300, 200);
        x.add(20, -200, 200);
        x.add(20, -200, 190);
        checks.due("18: least below its bound", 2, x.coming(1, 4));
        x.goods(1, -190);
        checks.due("18: of several the lowest", 1, x.coming(1, 4));
        x.goods(0, -190);
        checks.due("18: of several the lowest", 0, x.coming(240, 4));
        x.door(2, true);
        checks.due("18: the warmest then, not now", 2, x.coming(9, 4));
    }

    private static void leastLimit() {
        MeterRooms x = new MeterRooms();
        checks.refused("19: leastLimit(0)", Checks.ARGUMENT, x, () -> x.leastLimit(0));
        checks.refused("19: leastLimit(61)", Checks.ARGUMENT, x, () -> x.leastLimit(61));
        checks.refused("19: leastLimit(MIN)", Checks.ARGUMENT, x, () -> x.leastLimit(Integer.MIN_VALUE));
        checks.due("19: no quarter hour ends", 0, x.leastLimit(14));
        checks.due("19: one of 150", 200, x.leastLimit(15));
        checks.due("19: four of 150", 200, x.leastLimit(60));
        x.set(2, 40);
        checks.due("19: one of 600", 600, x.leastLimit(15));
        x.set(2, 41);
        checks.due("19: one of 615", 700, x.leastLimit(15));
        x.set(2, 0);
        checks.due("19: one of 0", 0, x.leastLimit(60));
        x.set(2, 99);
        x.run(10);
        checks.due("19: one of 1485", 1500, x.leastLimit(5));
        x.set(2, 0);
        checks.due("19: one of 990", 1000, x.leastLimit(60));
        checks.due("19: the limit stays", 600, x.setting(0));
        x.set(0, 0);
        x.run(60);
        checks.due("the one that passed", 1, x.about(4));
        checks.due("19: those that passed before do not count", 0, x.leastLimit(60));
    }

    private static void leastLimitOfRooms() {
        // With a limit of 0 it waits for a quarter hour, and then is not warm: 150 units.
        MeterRooms x = new MeterRooms();
        x.add(20, 0, 200);
        x.goods(0, 100);
        x.set(0, 9999);
        checks.due("19: what waits is not counted", 200, x.leastLimit(15));
        x.set(2, 0);
        checks.due("19: what waits is not counted", 0, x.leastLimit(15));
        x.goods(0, 400);
        checks.due("19: what must run is", 300, x.leastLimit(15));
    }

    private static void leastLimitOfNone() {
        MeterRooms x = new MeterRooms();
        x.set(2, 99);
        for (int i = 0; i < 6; i++) {
            x.add(50, -300, -299);
            x.goods(i, 400);
            x.door(i, true);
        }
        x.run(14);
        x.set(1, 1);
        x.run(9);
        checks.due("the sum", 23 * 399, x.about(2));
        checks.due("the minutes left", 6, x.about(3));
        checks.due("19: none ends in 5 minutes", 0, x.leastLimit(5));
        checks.due("19: 9177 and 6 * 399 are too much", -1, x.leastLimit(6));
        for (int i = 0; i < 6; i++) {
            x.goods(i, -400);
            x.door(i, false);
        }
        x.set(2, 98);
        checks.due("19: 9177 and 6 * 98 fit in 9800", 9800, x.leastLimit(6));
        x.set(3, 50);
        x.set(2, 99);
        x.undo();
        x.set(1, 14);
        checks.due("the minutes left", 8, x.about(3));
        checks.due("19: 9177 and 8 * 98 would need 10000", -1, x.leastLimit(8));
        x.set(2, 90);
        checks.due("19: 9177 and 8 * 90 fit in 9900", 9900, x.leastLimit(8));
        x.set(2, 91);
        checks.due("19: 9177 and 8 * 91 do not", -1, x.leastLimit(8));
    }

    private static void bestShut() {
        MeterRooms x = new MeterRooms();
        checks.due("20: without rooms", -1, x.bestShut());
        x.set(0, 0);
        x.add(20, -100, -50);
        x.add(20, 0, 60);
        x.add(20, 0, 200);
        x.goods(0, -300);
        x.goods(1, -300);
        x.goods(2, -400);
        checks.due("20: without open doors", -1, x.bestShut());
        x.door(0, true);
        checks.due("20: the only one", 0, x.bestShut());
        x.door(1, true);
        checks.due("20: -285 - 60 is less than -285 + 50", 1, x.bestShut());
        x.goods(1, -190);
        checks.due("20: -175 - 60 is as much", 0, x.bestShut());
        x.goods(1, -191);
        checks.due("20: a tenth less", 1, x.bestShut());
        x.goods(1, -189);
        checks.due("20: a tenth more", 0, x.bestShut());
        x.door(0, false);
        checks.due("20: the only one that is open", 1, x.bestShut());
        // Now room 1 is the colder one, less its bound; but room 0 must run until then.
        x.door(0, true);
        x.goods(0, -30);
        x.goods(1, 45);
        checks.due("20: room 0 then, 1 below its bound", -51, thenIfShut(x, 0));
        checks.due("20: room 1 then, as warm as its bound", 60, thenIfShut(x, 1));
        checks.due("20: so it is room 0", 0, x.bestShut());
    }

    /** What the other room does while its door stays open counts, too: only one of them fits. */
    private static void bestShutAlone() {
        MeterRooms x = new MeterRooms();
        x.set(0, 450);
        x.set(4, 100);
        x.add(20, 0, 200);
        x.add(20, 0, 200);
        x.goods(0, 100);
        x.goods(1, 190);
        x.door(0, true);
        x.door(1, true);
        checks.due("20: room 0 waits all the time, as room 1 is warmer", 115, thenIfShut(x, 0));
        checks.due("20: room 1 is cooled for some 7 minutes and every other one", 1, thenIfShut(x, 1) > 115 ? 1 : 0);
        checks.due("20: so it is room 0", 0, x.bestShut());
        x.goods(1, 120);
        checks.due("20: room 0 is cooled now and then", thenIfShut(x, 1) < thenIfShut(x, 0) ? 1 : 0, x.bestShut());
        x.door(1, false);
        x.goods(1, 0);
        checks.due("20: only an open one", 0, x.bestShut());
    }

    private static int thenIfShut(MeterRooms x, int i) {
        x.door(i, false);
        x.run(15);
        int then = x.room(i, 3);
        x.undo();
        x.undo();
        return then;
    }

    private static void nothingChanges() {
        unchanged("16: spare", MeterRooms::spare);
        unchanged("17: warmIn", x -> x.warmIn(0));
        for (int what = 0; what <= 4; what++) {
            int w = what;
            unchanged("18: coming", x -> x.coming(100, w));
        }
        unchanged("19: leastLimit", x -> x.leastLimit(60));
        unchanged("20: bestShut", MeterRooms::bestShut);
        unchanged("8: does", x -> x.does(1));
        for (int what = 0; what <= 10; what++) {
            int w = what;
            unchanged("6: about", x -> x.about(w));
        }
    }

    private static void unchanged(String what, ToIntFunction<MeterRooms> question) {
        MeterRooms x = Checks.withText("Mr20-200-150r30+020+060r10+100+140l0200o0o2m60l0700m60l0100m40");
        x.load();
        String before = Checks.picture(x);
        int answer = question.applyAsInt(x);
        checks.same(what + " changes nothing", before, Checks.picture(x));
        checks.due(what + " again", answer, question.applyAsInt(x));
        checks.refused(what + " is no action", Checks.STATE, x, x::undo);
    }
}
