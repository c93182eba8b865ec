import java.util.ArrayDeque;
import java.util.ArrayList;
import java.util.Comparator;
import java.util.Deque;
import java.util.HashSet;
import java.util.List;
import java.util.Set;
import java.util.regex.Matcher;
import java.util.regex.Pattern;

/**
 * The document once more, written as it reads and with the whole Java library, to compare
 * MeterRooms with: states are copied anew, scripts catch the exceptions of the methods.
 */
final class Model {
    private static final String TEMPERATURE = "(\\+([01]\\d\\d|200)|-([012]\\d\\d|300))";
    private static final String COMMAND = "(r(0[1-9]|[1-4]\\d|50)" + TEMPERATURE + TEMPERATURE
            + "|[oz][0-5]|m(0[1-9]|[1-5]\\d|60)|l\\d{4})";
    private static final Pattern STORE = Pattern.compile("M" + COMMAND + "*");
    private static final int[][] RANGES = {{0, 9999}, {0, 14}, {0, 99}, {1, 50}, {1, 100}, {1, 30}};

    private static final class Cell {
        int load;
        int wish;
        int bound;
        int temperature;
        boolean open;
        int frost;
        int left;
        int ran;

        Cell copy() {
            Cell c = new Cell();
            c.load = load;
            c.wish = wish;
            c.bound = bound;
            c.temperature = temperature;
            c.open = open;
            c.frost = frost;
            c.left = left;
            c.ran = ran;
            return c;
        }
    }

    private List<Cell> cells = new ArrayList<>();
    private int[] settings = {600, 0, 10, 12, 30, 6};
    /** By the numbers of about(); 0 and 3 are found when they are asked for. */
    private int[] accounts = new int[11];
    private Deque<Model> remembered = new ArrayDeque<>();
    private Model[] slots = new Model[2];
    private String text = "";

    private Model copy() {
        Model m = new Model();
        m.takeStateOf(this);
        return m;
    }

    private void takeStateOf(Model other) {
        cells = new ArrayList<>();
        for (Cell c : other.cells) {
            cells.add(c.copy());
        }
        settings = other.settings.clone();
        accounts = other.accounts.clone();
    }

    private void remember() {
        remembered.addLast(copy());
        if (remembered.size() > 14) {
            remembered.removeFirst();
        }
    }

    private static void demand(boolean condition) {
        if (!condition) {
            throw new IllegalArgumentException();
        }
    }

    private static void demandState(boolean condition) {
        if (!condition) {
            throw new IllegalStateException();
        }
    }

    private Cell cell(int i) {
        if (i < 0 || i >= cells.size()) {
            throw new IndexOutOfBoundsException();
        }
        return cells.get(i);
    }

    // ---- text

    long append(int c) {
        demand(c >= 0 && c <= 255);
        demandState(text.length() < 120);
        text += (char) c;
        return text.length();
    }

    long clearText() {
        int length = text.length();
        text = "";
        return length;
    }

    long errorPosition() {
        for (int end = 1; end <= text.length(); end++) {
            Matcher m = STORE.matcher(text.substring(0, end));
            if (!m.matches() && !m.hitEnd()) {
                return end - 1;
            }
        }
        return STORE.matcher(text).matches() ? -1 : text.length();
    }

    long load() {
        demandState(errorPosition() == -1);
        takeStateOf(new Model());
        int leftOut = 0;
        Matcher m = Pattern.compile(COMMAND).matcher(text);
        for (int at = 1; m.find(at); at = m.end()) {
            try {
                command(m.group());
            } catch (RuntimeException e) {
                leftOut++;
            }
        }
        remembered.clear();
        slots = new Model[2];
        return leftOut;
    }

    private void command(String c) {
        switch (c.charAt(0)) {
            case 'r' -> add(number(c, 1, 3), number(c, 3, 7), number(c, 7, 11));
            case 'o' -> door(number(c, 1, 2), true);
            case 'z' -> door(number(c, 1, 2), false);
            case 'm' -> run(number(c, 1, 3));
            default -> set(0, number(c, 1, 5));
        }
    }

    private static int number(String c, int from, int to) {
        return Integer.parseInt(c.substring(from, to));
    }

    // ---- what there is

    long about(int what) {
        demand(what >= 0 && what <= 10);
        if (what == 0) {
            return cells.size();
        }
        return what == 3 ? minutesLeft() : accounts[what];
    }

    long room(int i, int what) {
        Cell c = cell(i);
        demand(what >= 0 && what <= 7);
        int[] all = {c.load, c.wish, c.bound, c.temperature, c.open ? 1 : 0, c.frost, c.left, c.ran};
        return all[what];
    }

    long does(int i) {
        cell(i);
        return plan()[i];
    }

    long setting(int what) {
        demand(what >= 0 && what <= 5);
        return settings[what];
    }

    // ---- actions

    long add(int load, int wish, int bound) {
        demand(load >= 1 && load <= 50 && wish >= -300 && wish <= 200 && bound <= 200 && bound > wish);
        demandState(cells.size() < 6);
        remember();
        Cell c = new Cell();
        c.load = load;
        c.wish = wish;
        c.bound = bound;
        c.temperature = wish;
        cells.add(c);
        return cells.size() - 1;
    }

    long door(int i, boolean open) {
        cell(i);
        remember();
        cell(i).open = open;
        return cells.stream().filter(c -> c.open).count();
    }

    long goods(int i, int v) {
        int previous = cell(i).temperature;
        demand(v >= -400 && v <= 400);
        remember();
        cell(i).temperature = v;
        return previous;
    }

    long run(int n) {
        demand(n >= 1 && n <= 60);
        remember();
        int before = accounts[6];
        minutes(n);
        return accounts[6] - before;
    }

    long set(int what, int v) {
        demand(what >= 0 && what <= 5);
        demand(v >= RANGES[what][0] && v <= RANGES[what][1]);
        remember();
        int previous = settings[what];
        settings[what] = v;
        return previous;
    }

    long undo() {
        demandState(!remembered.isEmpty());
        takeStateOf(remembered.removeLast());
        return remembered.size();
    }

    // ---- a minute

    private int minutesLeft() {
        int left = 1;
        while ((accounts[1] + left - 1 + 1 + settings[1]) % 15 != 0) {
            left++;
        }
        return left;
    }

    private boolean fits(int load, int taken) {
        return accounts[2] + (load + taken + settings[2]) * minutesLeft() <= settings[0];
    }

    private int kilowatts(int i, int does) {
        return switch (does) {
            case 0, 2, 5 -> settings[3];
            case 1, 3 -> cells.get(i).load;
            default -> 0;
        };
    }

    private int[] plan() {
        int[] does = new int[cells.size()];
        int taken = 0;
        List<Integer> warm = new ArrayList<>();
        List<Integer> cold = new ArrayList<>();
        for (int i = 0; i < does.length; i++) {
            Cell c = cells.get(i);
            does[i] = c.left > 0 ? 0 : c.temperature >= c.bound ? 1 : c.frost == 100 ? 2 : 7;
            taken += kilowatts(i, does[i]);
            if (does[i] == 7 && c.temperature > c.wish) {
                warm.add(i);
            } else if (does[i] == 7 && c.frost >= settings[4]) {
                cold.add(i);
            }
        }
        warm.sort(Comparator.comparing((Integer i) -> cells.get(i).wish - cells.get(i).temperature)
                .thenComparing(i -> i));
        for (int i : warm) {
            does[i] = fits(cells.get(i).load, taken) ? 3 : 4;
            taken += kilowatts(i, does[i]);
        }
        cold.sort(Comparator.comparing((Integer i) -> -cells.get(i).frost).thenComparing(i -> i));
        for (int i : cold) {
            does[i] = fits(settings[3], taken) ? 5 : 6;
            taken += kilowatts(i, does[i]);
        }
        return does;
    }

    private void minutes(int n) {
        for (int k = 0; k < n; k++) {
            minute();
        }
    }

    private void minute() {
        int[] does = plan();
        int units = settings[2];
        for (int i = 0; i < does.length; i++) {
            units += kilowatts(i, does[i]);
        }
        accounts[2] += units;
        accounts[6] += units;
        if (minutesLeft() == 1) {
            accounts[4] += accounts[2] > settings[0] ? 1 : 0;
            accounts[5] = Math.max(accounts[5], accounts[2]);
            accounts[2] = 0;
        }
        for (int i = 0; i < does.length; i++) {
            minuteOf(cells.get(i), does[i]);
        }
        accounts[1]++;
    }

    private void minuteOf(Cell c, int does) {
        Set<Integer> heated = Set.of(0, 2, 5);
        Set<Integer> cooled = Set.of(1, 3);
        accounts[8] += does == 4 ? 1 : 0;
        accounts[9] += does == 6 ? 1 : 0;
        int change = heated.contains(does) ? 6 : cooled.contains(does) ? -8 + c.frost / 20 : 1;
        c.temperature = Math.min(400, Math.max(-400, c.temperature + change + (c.open ? 4 : 0)));
        accounts[10] += c.temperature >= c.bound ? 1 : 0;
        if (does == 2 || does == 5) {
            accounts[7]++;
            c.left = settings[5];
        }
        if (heated.contains(does)) {
            c.frost = Math.max(c.frost - 10, 0);
            c.left--;
            if (c.frost == 0) {
                c.left = 0;
            }
        } else {
            if (cooled.contains(does)) {
                c.ran++;
                c.frost = Math.min(c.frost + 1, 100);
            }
            if (c.open) {
                c.frost = Math.min(c.frost + 2, 100);
            }
        }
    }

    // ---- what would be

    long spare() {
        long most = -1;
        for (int load = 0; load <= 9999 && fits(load, 0); load++) {
            most = load;
        }
        return most;
    }

    long warmIn(int i) {
        cell(i);
        Model m = copy();
        for (int behind = 0; behind <= 240; behind++) {
            if (m.cell(i).temperature >= m.cell(i).bound) {
                return behind;
            }
            m.minute();
        }
        return -1;
    }

    long coming(int n, int what) {
        demand(n >= 1 && n <= 240 && what >= 0 && what <= 4);
        Model m = copy();
        m.minutes(n);
        if (what < 4) {
            int account = new int[] {6, 4, 7, 8}[what];
            return m.accounts[account] - accounts[account];
        }
        int warmest = -1;
        for (int i = m.cells.size() - 1; i >= 0; i--) {
            if (warmest == -1 || m.warmth(i) >= m.warmth(warmest)) {
                warmest = i;
            }
        }
        return warmest;
    }

    private int warmth(int i) {
        return cells.get(i).temperature - cells.get(i).bound;
    }

    long leastLimit(int n) {
        demand(n >= 1 && n <= 60);
        for (int limit = 0; limit <= 9900; limit += 100) {
            Model m = copy();
            m.settings[0] = limit;
            m.minutes(n);
            if (m.accounts[4] == accounts[4]) {
                return limit;
            }
        }
        return -1;
    }

    long bestShut() {
        long best = -1;
        int least = Integer.MAX_VALUE;
        for (int i = 0; i < cells.size(); i++) {
            if (cells.get(i).open) {
                Model m = copy();
                m.cells.get(i).open = false;
                m.minutes(15);
                if (m.warmth(i) < least) {
                    least = m.warmth(i);
                    best = i;
                }
            }
        }
        return best;
    }

    // ---- scripts, simulations

    long runScript(int n, long script) {
        demand(n >= 1 && n <= 3 && script >= 0);
        String digits = Long.toString(script);
        demand(digits.length() <= 5 * n);
        digits = "0".repeat(5 * n - digits.length()) + digits;
        Model m = copy();
        for (int k = 0; k < n; k++) {
            try {
                if (!m.succeeds(digits.substring(5 * k, 5 * k + 5))) {
                    return k;
                }
            } catch (RuntimeException e) {
                return k;
            }
        }
        return -1;
    }

    private boolean succeeds(String g) {
        int i = number(g, 1, 2);
        if (g.matches("1.[01]00")) {
            door(i, g.charAt(2) == '1');
        } else if (g.matches("200..")) {
            run(number(g, 3, 5));
        } else if (g.equals("30000")) {
            minutes(15);
        } else if (g.matches("4...0")) {
            set(i, number(g, 2, 4));
        } else if (g.matches("5...0")) {
            goods(i, number(g, 2, 4));
        } else if (g.matches("6...0")) {
            return cell(i).frost <= number(g, 2, 4);
        } else if (g.matches("7.00.")) {
            return does(i) == number(g, 4, 5);
        } else if (g.matches("800..")) {
            return accounts[4] <= number(g, 3, 5);
        } else if (g.matches("9.00[01]")) {
            return cell(i).temperature >= cell(i).bound == (g.charAt(4) == '1');
        } else {
            return false;
        }
        return true;
    }

    long simulate(long seed, int m) {
        demand(m >= 1 && m <= 60);
        Model copy = copy();
        long x = seed;
        for (int k = 0; k < m; k++) {
            x = x * 6364136223846793005L + 1442695040888963407L;
            try {
                copy.turn((int) (x >>> 33));
            } catch (RuntimeException e) {
                continue;
            }
        }
        return 1000 * (copy.accounts[4] - accounts[4]) + copy.accounts[7] - accounts[7];
    }

    private void turn(int r) {
        int q = r / 8;
        switch (r % 8) {
            case 0, 1 -> door(q % 6, q / 8 % 3 == 0);
            case 2 -> goods(q % 6, q / 8 % 401 - 200);
            case 3 -> set(0, q % 1000);
            case 4 -> set(4, 1 + q % 100);
            default -> run(1 + q % 15);
        }
    }

    // ---- save slots

    long save(int slot) {
        demandSlot(slot);
        slots[slot] = copy();
        return accounts[1];
    }

    long restore(int slot) {
        demandSlot(slot);
        demandState(slots[slot] != null);
        takeStateOf(slots[slot]);
        remembered.clear();
        return accounts[1];
    }

    private static void demandSlot(int slot) {
        if (slot != 0 && slot != 1) {
            throw new IndexOutOfBoundsException();
        }
    }

    /** Which of the eight things rooms do in the next minute, so that a test can tell what it met. */
    Set<Integer> met() {
        Set<Integer> all = new HashSet<>();
        for (int does : plan()) {
            all.add(does);
        }
        return all;
    }
}
