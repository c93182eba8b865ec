import java.util.HashSet;
import java.util.Random;
import java.util.Set;
import java.util.function.LongSupplier;

/** Promises 1 to 24: runs of calls chosen by fixed seeds, each answer compared with the model's. */
public final class ModelTest {
    private static final int RUNS = 400;
    private static final int CALLS = 380;

    private static final Set<String> outcomesMet = new HashSet<>();
    private static final Set<Integer> doingsMet = new HashSet<>();

    private final Checks checks;
    private final Random random;
    private final int run;
    private final MeterRooms x = new MeterRooms();
    private final Model m = new Model();
    private int calls;

    private ModelTest(Checks checks, int run) {
        this.checks = checks;
        this.run = run;
        this.random = new Random(run);
    }

    public static void main(String[] args) {
        Checks checks = new Checks("ModelTest");
        for (int run = 0; run < RUNS; run++) {
            new ModelTest(checks, run).go();
        }
        checks.due("the doings of a room that the runs met", 8, doingsMet.size());
        // Each name with an answer, and each with each exception that the document names for it.
        checks.due("the outcomes that the runs met", 23 + 24, outcomesMet.size());
        checks.end();
    }

    private void go() {
        boolean usesText = run % 4 == 0;
        if (!usesText) {
            furnish();
        }
        while (calls < CALLS) {
            if (usesText && random.nextInt(60) == 0) {
                writeText();
            }
            call();
            doingsMet.addAll(m.met());
        }
        comparePictures();
    }

    private void furnish() {
        int rooms = 1 + random.nextInt(6);
        for (int k = 0; k < rooms; k++) {
            int load = 1 + random.nextInt(50);
            int wish = -300 + random.nextInt(400);
            int bound = wish + 1 + random.nextInt(60);
            compare("add", load + ", " + wish + ", " + bound,
                    () -> x.add(load, wish, bound), () -> m.add(load, wish, bound));
        }
        int limit = random.nextInt(1500);
        compare("set", "0, " + limit, () -> x.set(0, limit), () -> m.set(0, limit));
        int frost = 1 + random.nextInt(100);
        compare("set", "4, " + frost, () -> x.set(4, frost), () -> m.set(4, frost));
    }

    private void call() {
        int kind = random.nextInt(40);
        if (kind < 7) {
            int n = near(1, random.nextInt(3) == 0 ? 60 : 12);
            compare("run", "" + n, () -> x.run(n), () -> m.run(n));
        } else if (kind < 15) {
            callAction(kind);
        } else if (kind < 22) {
            callQuestion(kind);
        } else if (kind < 32) {
            callForecast(kind);
        } else {
            callRest(kind);
        }
    }

    private void callAction(int kind) {
        int i = room();
        if (kind < 10) {
            boolean open = random.nextInt(3) != 0;
            compare("door", i + ", " + open, () -> x.door(i, open), () -> m.door(i, open));
        } else if (kind < 12) {
            int v = goodsFor(i);
            compare("goods", i + ", " + v, () -> x.goods(i, v), () -> m.goods(i, v));
        } else if (kind < 14) {
            int what = near(0, 5);
            int v = valueFor(what);
            compare("set", what + ", " + v, () -> x.set(what, v), () -> m.set(what, v));
        } else {
            int load = near(1, 50);
            int wish = near(-300, 200);
            int bound = random.nextInt(3) == 0 ? near(-300, 200) : Math.min(201, wish + random.nextInt(80));
            compare("add", load + ", " + wish + ", " + bound,
                    () -> x.add(load, wish, bound), () -> m.add(load, wish, bound));
        }
    }

    private void callQuestion(int kind) {
        int i = room();
        int what = near(0, 10);
        switch (kind) {
            case 15, 16 -> compare("about", "" + what, () -> x.about(what), () -> m.about(what));
            case 17, 18 -> {
                int property = near(0, 7);
                compare("room", i + ", " + property, () -> x.room(i, property), () -> m.room(i, property));
            }
            case 19, 20 -> compare("does", "" + i, () -> x.does(i), () -> m.does(i));
            default -> {
                int setting = near(0, 5);
                compare("setting", "" + setting, () -> x.setting(setting), () -> m.setting(setting));
            }
        }
    }

    private void callForecast(int kind) {
        int i = room();
        int n = near(1, random.nextInt(2) == 0 ? 240 : 20);
        int what = near(0, 4);
        switch (kind) {
            case 22, 23 -> compare("spare", "", x::spare, m::spare);
            case 24, 25 -> compare("warmIn", "" + i, () -> x.warmIn(i), () -> m.warmIn(i));
            case 26, 27, 28 ->
                compare("coming", n + ", " + what, () -> x.coming(n, what), () -> m.coming(n, what));
            case 29 -> {
                int k = near(1, 60);
                compare("leastLimit", "" + k, () -> x.leastLimit(k), () -> m.leastLimit(k));
            }
            default -> compare("bestShut", "", x::bestShut, m::bestShut);
        }
    }

    private void callRest(int kind) {
        int slot = near(0, 1);
        switch (kind) {
            case 32, 33, 34 -> {
                int n = near(1, 3);
                long script = script(n);
                compare("runScript", n + ", " + script, () -> x.runScript(n, script), () -> m.runScript(n, script));
            }
            case 35 -> {
                long seed = random.nextLong();
                int turns = near(1, 60);
                compare("simulate", seed + ", " + turns, () -> x.simulate(seed, turns), () -> m.simulate(seed, turns));
            }
            case 36 -> compare("save", "" + slot, () -> x.save(slot), () -> m.save(slot));
            case 37 -> undoSome();
            case 38 -> compare("restore", "" + slot, () -> x.restore(slot), () -> m.restore(slot));
            default -> callText();
        }
    }

    private void undoSome() {
        int times = random.nextInt(8) == 0 ? 16 : 1 + random.nextInt(3);
        for (int k = 0; k < times; k++) {
            compare("undo", "", x::undo, m::undo);
        }
    }

    private void callText() {
        int c = random.nextBoolean() ? "Mrozml+-0123"
                .charAt(random.nextInt(12)) : near(0, 255);
        switch (random.nextInt(5)) {
            case 0 -> compare("errorPosition", "", x::errorPosition, m::errorPosition);
            case 1 -> compare("load", "", x::load, m::load);
            case 2 -> compare("clearText", "", x::clearText, m::clearText);
            default -> compare("append", "" + c, () -> x.append(c), () -> m.append(c));
        }
    }

    /** Writes a store of random commands, sometimes with one sign of it wrong or its end cut off. */
    private void writeText() {
        if (calls > CALLS - 130) {
            return;
        }
        StringBuilder text = new StringBuilder("M");
        int length = 20 + random.nextInt(100);
        while (text.length() < length - 10) {
            text.append(command());
        }
        if (random.nextInt(3) == 0) {
            text.setCharAt(random.nextInt(text.length()), "Mrozml+-0123456789 ".charAt(random.nextInt(19)));
        }
        if (random.nextInt(3) == 0) {
            text.setLength(random.nextInt(text.length()));
        }
        compare("clearText", "", x::clearText, m::clearText);
        boolean fills = random.nextInt(4) == 0;
        for (int k = 0; k < (fills ? 121 : text.length()); k++) {
            int c = k < text.length() ? text.charAt(k) : '0';
            compare("append", "" + c, () -> x.append(c), () -> m.append(c));
        }
        compare("errorPosition", "", x::errorPosition, m::errorPosition);
        compare("load", "", x::load, m::load);
    }

    private String command() {
        int room = random.nextInt(6);
        return switch (random.nextInt(6)) {
            case 0, 1 -> "r" + String.format("%02d", 1 + random.nextInt(50)) + temperature(300) + temperature(200);
            case 2 -> "o" + room;
            case 3 -> "z" + room;
            case 4 -> "m" + String.format("%02d", 1 + random.nextInt(60));
            default -> "l" + String.format("%04d", random.nextInt(2000));
        };
    }

    private String temperature(int below) {
        int t = -below + random.nextInt(below + 201);
        return (t < 0 ? "-" : t > 0 || random.nextBoolean() ? "+" : "-") + String.format("%03d", Math.abs(t));
    }

    private int room() {
        return random.nextInt(8) == 0 ? random.nextInt(9) - 1 : random.nextInt((int) Math.max(1, m.about(0)));
    }

    private int goodsFor(int i) {
        if (random.nextBoolean() || i < 0 || i >= m.about(0)) {
            return near(-400, 400);
        }
        // Near the wish and the bound is where the rules part.
        return (int) m.room(i, 1 + random.nextInt(2)) + random.nextInt(5) - 2;
    }

    private int valueFor(int what) {
        int[] most = {1200, 14, 99, 50, 100, 30};
        if (what < 0 || what > 5) {
            return random.nextInt(40);
        }
        int[][] edges = {{-1, 0, 9999, 10000}, {-1, 0, 14, 15}, {-1, 0, 99, 100}, {0, 1, 50, 51},
            {0, 1, 100, 101}, {0, 1, 30, 31}};
        return random.nextInt(5) == 0 ? edges[what][random.nextInt(4)] : random.nextInt(most[what] + 1);
    }

    /** A number from least to most, now and then just or far outside. */
    private int near(int least, int most) {
        return switch (random.nextInt(40)) {
            case 0 -> least - 1;
            case 1 -> most + 1;
            case 2 -> random.nextBoolean() ? Integer.MIN_VALUE : Integer.MAX_VALUE;
            case 3 -> least;
            case 4 -> most;
            default -> least + random.nextInt(most - least + 1);
        };
    }

    private long script(int n) {
        if (random.nextInt(20) == 0) {
            return random.nextBoolean() ? -1 - random.nextInt(99999) : random.nextLong();
        }
        long script = 0;
        for (int k = 0; k < n && k < 4; k++) {
            script = script * 100000 + group();
        }
        return random.nextInt(25) == 0 ? (long) Math.pow(10, 5 * n) : script;
    }

    private int group() {
        if (random.nextInt(12) == 0) {
            return random.nextInt(100000);
        }
        int i = Math.max(0, room());
        int two = random.nextInt(100);
        int[] groups = {10000 + 1000 * i + 100 * random.nextInt(3), 20000 + two, 30000,
            40000 + 1000 * random.nextInt(7) + 10 * two, 50000 + 1000 * i + 10 * two,
            60000 + 1000 * i + 10 * two, 70000 + 1000 * i + random.nextInt(9), 80000 + random.nextInt(5),
            90000 + 1000 * i + random.nextInt(3)};
        int group = groups[random.nextInt(groups.length)];
        return random.nextInt(12) == 0 ? group + (int) Math.pow(10, random.nextInt(4)) : group;
    }

    private void compare(String name, String arguments, LongSupplier mine, LongSupplier due) {
        calls++;
        String want = Checks.outcome(due);
        checks.same("run " + run + ", call " + calls + ": " + name + "(" + arguments + ")", want, Checks.outcome(mine));
        outcomesMet.add(name + (want.startsWith("throws") ? " " + want : ""));
    }

    private void comparePictures() {
        for (int what = 0; what <= 10; what++) {
            int k = what;
            compare("about", "" + k, () -> x.about(k), () -> m.about(k));
        }
        for (int i = 0; i < 6; i++) {
            for (int what = 0; what <= 7; what++) {
                int j = i;
                int k = what;
                compare("room", j + ", " + k, () -> x.room(j, k), () -> m.room(j, k));
            }
        }
    }
}
