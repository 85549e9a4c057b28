import java.util.ArrayList;
import java.util.List;
import java.util.Set;
import java.util.TreeSet;
import java.util.regex.Matcher;
import java.util.regex.Pattern;

/** The document once more, word by word and without a thought of speed, to compare the program with. */
final class Oracle {
    record Recipe(int floor, int draw, int ticks, int cool) { }

    record Wish(int robot, int recipe, int first) {
        int last() {
            return first + 20;
        }
    }

    static final class Booking {
        int robot;
        int recipe;
        int start;
        int state;
        int drawn;
        int spoiledIn = -5;
        int least = Integer.MAX_VALUE;

        Booking(int robot, int recipe, int start) {
            this.robot = robot;
            this.recipe = recipe;
            this.start = start;
        }

        Booking copy() {
            Booking b = new Booking(robot, recipe, start);
            b.state = state;
            b.drawn = drawn;
            return b;
        }
    }

    static final class World {
        int tick = 0;
        int pressure = 900;
        int most = 1500;
        int heat = 20;
        int granted = 0;
        int dropped = 0;
        int taken = 0;
        List<Recipe> recipes = new ArrayList<>();
        List<Booking> bookings = new ArrayList<>();
        List<Wish> wishes = new ArrayList<>();

        World copy() {
            World w = new World();
            w.tick = tick;
            w.pressure = pressure;
            w.most = most;
            w.heat = heat;
            w.granted = granted;
            w.dropped = dropped;
            w.taken = taken;
            w.recipes = new ArrayList<>(recipes);
            for (Booking b : bookings) {
                w.bookings.add(b.copy());
            }
            w.wishes = new ArrayList<>(wishes);
            return w;
        }

        void passOne() {
            tick = tick + 1;
            pressure = pressure + heat;
            if (pressure > most) {
                pressure = most;
            }
            for (Booking b : bookings) {
                Recipe r = recipes.get(b.recipe);
                if (b.state > 1 || tick < b.start || tick > b.start + r.ticks - 1) {
                    continue;
                }
                b.least = Math.min(b.least, pressure - r.floor);
                if (pressure < r.floor) {
                    b.state = 3;
                    b.spoiledIn = tick;
                    continue;
                }
                int less = Math.max(0, pressure - r.draw);
                taken += pressure - less;
                pressure = less;
                b.drawn++;
                b.state = tick == b.start + r.ticks - 1 ? 2 : 1;
            }
            for (Wish w : new ArrayList<>(wishes)) {
                if (w.last() <= tick) {
                    wishes.remove(w);
                    dropped++;
                }
            }
        }

        World forecast(int ticks) {
            World w = copy();
            for (int i = 0; i < ticks; i++) {
                w.passOne();
            }
            return w;
        }

        Set<Integer> doomed() {
            World end = forecast(100);
            Set<Integer> numbers = new TreeSet<>();
            for (int i = 0; i < bookings.size(); i++) {
                if (bookings.get(i).state != 3 && end.bookings.get(i).state == 3) {
                    numbers.add(i);
                }
            }
            return numbers;
        }

        int lastBusy(Booking b) {
            Recipe r = recipes.get(b.recipe);
            return b.start + r.ticks - 1 + r.cool;
        }

        int hinderer(int robot, int from, int to, int but) {
            for (int i = 0; i < bookings.size(); i++) {
                Booking b = bookings.get(i);
                if (i == but || b.robot != robot || b.state > 2) {
                    continue;
                }
                for (int t = from; t <= to; t++) {
                    if (t >= b.start && t <= lastBusy(b)) {
                        return i;
                    }
                }
            }
            return -1;
        }

        /** The reason, the booking and the tick. */
        int[] why(int number, int robot, int recipe, int start) {
            Recipe r = recipes.get(recipe);
            int hinderer = hinderer(robot, start, start + r.ticks - 1 + r.cool, number);
            if (hinderer >= 0) {
                return new int[] {1, hinderer, -5};
            }
            World without = copy();
            World with = copy();
            if (number < bookings.size()) {
                without.bookings.get(number).state = 4;
                with.bookings.get(number).start = start;
            } else {
                with.bookings.add(new Booking(robot, recipe, start));
            }
            Set<Integer> more = with.doomed();
            World end = with.forecast(100);
            if (more.contains(number)) {
                return new int[] {2, -5, end.bookings.get(number).spoiledIn};
            }
            more.removeAll(without.doomed());
            for (int first : more) {
                return new int[] {3, first, end.bookings.get(first).spoiledIn};
            }
            return new int[] {0, -5, -5};
        }

        int firstFit(int number, int robot, int recipe, int from, int to) {
            for (int start = from; start <= to; start++) {
                if (startIsGood(start) && why(number, robot, recipe, start)[0] == 0) {
                    return start;
                }
            }
            return -5;
        }

        int firstFit(Wish w) {
            return firstFit(bookings.size(), w.robot, w.recipe, w.first, w.last());
        }

        boolean startIsGood(int start) {
            return start > tick && start <= tick + 60;
        }

        boolean grant(Wish w) {
            int start = bookings.size() < 60 ? firstFit(w) : -5;
            if (start == -5) {
                return false;
            }
            bookings.add(new Booking(w.robot, w.recipe, start));
            granted++;
            return true;
        }
    }

    private World now = new World();
    private World snapshot = null;
    private final List<World> history = new ArrayList<>();
    private final StringBuilder text = new StringBuilder();

    private void record(World state) {
        history.add(state);
        if (history.size() > 4) {
            history.remove(0);
        }
    }

    private void record() {
        record(now.copy());
    }

    private boolean unknown(int robot, int recipe) {
        return robot < 0 || robot > 5 || noRecipe(recipe);
    }

    private boolean noRecipe(int recipe) {
        return recipe < 0 || recipe >= now.recipes.size();
    }

    private boolean noBooking(int booking) {
        return booking < 0 || booking >= now.bookings.size();
    }

    private boolean noWish(int place) {
        return place < 0 || place >= now.wishes.size();
    }

    int addRecipe(int floor, int draw, int ticks, int cool) {
        if (floor < 0 || floor > 3000 || draw < 1 || draw > 500 || ticks < 1 || ticks > 20 || cool < 0 || cool > 9) {
            return -2;
        }
        if (now.recipes.size() == 8) {
            return -3;
        }
        record();
        now.recipes.add(new Recipe(floor, draw, ticks, cool));
        return now.recipes.size() - 1;
    }

    int setHeat(int heat) {
        if (heat < 0 || heat > 300) {
            return -2;
        }
        if (heat == now.heat) {
            return -5;
        }
        record();
        now.heat = heat;
        return now.doomed().size();
    }

    int setMost(int most) {
        if (most < 100 || most > 3000) {
            return -2;
        }
        if (most == now.most) {
            return -5;
        }
        record();
        now.most = most;
        if (now.pressure > most) {
            now.pressure = most;
        }
        return now.pressure;
    }

    int fall(int amount) {
        if (amount < 1 || amount > 3000) {
            return -2;
        }
        if (now.pressure == 0) {
            return -5;
        }
        record();
        now.pressure = Math.max(0, now.pressure - amount);
        return now.doomed().size();
    }

    private int tryToBook(World w, int robot, int recipe, int start) {
        if (unknown(robot, recipe)) {
            return -1;
        }
        if (!w.startIsGood(start)) {
            return -2;
        }
        if (w.bookings.size() == 60) {
            return -3;
        }
        int reason = w.why(w.bookings.size(), robot, recipe, start)[0];
        if (reason != 0) {
            return reason == 1 ? -6 : -7;
        }
        w.bookings.add(new Booking(robot, recipe, start));
        return w.bookings.size() - 1;
    }

    int book(int robot, int recipe, int start) {
        World before = now.copy();
        int answer = tryToBook(now, robot, recipe, start);
        if (answer >= 0) {
            record(before);
        }
        return answer;
    }

    int cancel(int booking) {
        if (noBooking(booking)) {
            return -1;
        }
        if (now.bookings.get(booking).state > 1) {
            return -4;
        }
        record();
        now.bookings.get(booking).state = 4;
        List<Wish> left = new ArrayList<>();
        int granted = 0;
        for (Wish w : now.wishes) {
            if (now.grant(w)) {
                granted++;
            } else {
                left.add(w);
            }
        }
        now.wishes = left;
        return granted;
    }

    int move(int booking, int start) {
        if (noBooking(booking)) {
            return -1;
        }
        Booking b = now.bookings.get(booking);
        if (b.state != 0) {
            return -4;
        }
        if (!now.startIsGood(start)) {
            return -2;
        }
        int reason = now.why(booking, b.robot, b.recipe, start)[0];
        if (reason != 0) {
            return reason == 1 ? -6 : -7;
        }
        int previous = b.start;
        if (previous == start) {
            return -5;
        }
        record();
        b.start = start;
        return previous;
    }

    int repair() {
        World before = now.copy();
        Set<Integer> handled = new TreeSet<>();
        int moved = 0;
        while (true) {
            int next = -1;
            for (int number : now.doomed()) {
                if (next < 0 && now.bookings.get(number).state == 0 && !handled.contains(number)) {
                    next = number;
                }
            }
            if (next < 0) {
                break;
            }
            handled.add(next);
            Booking b = now.bookings.get(next);
            int start = now.firstFit(next, b.robot, b.recipe, b.start + 1, now.tick + 60);
            if (start == -5) {
                b.state = 4;
            } else {
                b.start = start;
                moved++;
            }
        }
        if (handled.isEmpty()) {
            return -5;
        }
        record(before);
        return moved;
    }

    int wish(int robot, int recipe, int first) {
        if (unknown(robot, recipe)) {
            return -1;
        }
        if (!now.startIsGood(first)) {
            return -2;
        }
        World before = now.copy();
        Wish w = new Wish(robot, recipe, first);
        if (now.grant(w)) {
            record(before);
            return now.bookings.size() - 1;
        }
        if (now.wishes.size() == 8) {
            return -3;
        }
        record(before);
        now.wishes.add(w);
        return 1000 + now.wishes.size();
    }

    int unwish(int place) {
        if (noWish(place)) {
            return -1;
        }
        record();
        return now.wishes.remove(place).recipe;
    }

    private int inState(int state) {
        int n = 0;
        for (Booking b : now.bookings) {
            n += b.state == state ? 1 : 0;
        }
        return n;
    }

    int pass(int ticks) {
        if (ticks < 1 || ticks > 200) {
            return -2;
        }
        if (now.tick + ticks > 9000) {
            return -4;
        }
        record();
        int before = inState(2);
        for (int i = 0; i < ticks; i++) {
            now.passOne();
        }
        return inState(2) - before;
    }

    int type(char character) {
        if (text.length() == 60) {
            return -3;
        }
        text.append(character);
        return text.length();
    }

    int clearText() {
        int length = text.length();
        text.setLength(0);
        return length;
    }

    private static final String ENTRY = "[0-9]:[0-9]@(?:0|[1-9][0-9]{0,3})";
    private static final Pattern ROW = Pattern.compile(ENTRY + "(?:," + ENTRY + ")*");

    /** Whether some row of bookings begins with this text. */
    private static boolean canBegin(String begun) {
        for (String rest : new String[] {"", "0", "@0", "0@0", ":0@0", "0:0@0"}) {
            if (ROW.matcher(begun + rest).matches()) {
                return true;
            }
        }
        return false;
    }

    int bookAll() {
        String told = text.toString();
        if (!ROW.matcher(told).matches()) {
            int fault = 0;
            while (fault < told.length() && canBegin(told.substring(0, fault + 1))) {
                fault++;
            }
            return -100 - fault;
        }
        World trial = now.copy();
        String[] entries = told.split(",");
        for (String entry : entries) {
            Matcher m = Pattern.compile("(.):(.)@(.*)").matcher(entry);
            m.matches();
            int answer = tryToBook(trial, Integer.parseInt(m.group(1)), Integer.parseInt(m.group(2)),
                    Integer.parseInt(m.group(3)));
            if (answer < 0) {
                return answer;
            }
        }
        record();
        now = trial;
        return entries.length;
    }

    int undo() {
        if (history.isEmpty()) {
            return -5;
        }
        now = history.remove(history.size() - 1);
        return history.size();
    }

    int keep() {
        snapshot = now.copy();
        return now.tick;
    }

    int restore() {
        if (snapshot == null) {
            return -5;
        }
        record();
        now = snapshot.copy();
        return now.tick;
    }

    int recipe(int recipe, int what) {
        if (noRecipe(recipe)) {
            return -1;
        }
        if (what < 0 || what > 4) {
            return -2;
        }
        Recipe r = now.recipes.get(recipe);
        int done = 0;
        for (Booking b : now.bookings) {
            done += b.recipe == recipe && b.state == 2 ? 1 : 0;
        }
        return new int[] {r.floor, r.draw, r.ticks, r.cool, done}[what];
    }

    int robot(int robot, int what) {
        if (robot < 0 || robot > 5) {
            return -1;
        }
        if (what < 0 || what > 3) {
            return -2;
        }
        int open = 0;
        int done = 0;
        for (Booking b : now.bookings) {
            open += b.robot == robot && b.state < 2 ? 1 : 0;
            done += b.robot == robot && b.state == 2 ? 1 : 0;
        }
        int busy = now.hinderer(robot, now.tick, now.tick, -1) >= 0 ? 1 : 0;
        int free = now.tick;
        while (now.hinderer(robot, free, free, -1) >= 0) {
            free++;
        }
        return new int[] {open, done, busy, free}[what];
    }

    int booking(int booking, int what) {
        if (noBooking(booking)) {
            return -1;
        }
        if (what < 0 || what > 7) {
            return -2;
        }
        Booking b = now.bookings.get(booking);
        Booking end = now.forecast(100).bookings.get(booking);
        int least = b.state > 1 ? -5 : 10000 + end.least;
        int spoiledIn = now.doomed().contains(booking) ? end.spoiledIn : -5;
        return new int[] {b.robot, b.recipe, b.start, b.state, b.drawn, end.state, spoiledIn, least}[what];
    }

    int wishTold(int place, int what) {
        if (noWish(place)) {
            return -1;
        }
        if (what < 0 || what > 3) {
            return -2;
        }
        Wish w = now.wishes.get(place);
        return new int[] {w.robot, w.recipe, w.first, now.firstFit(w)}[what];
    }

    int pressureIn(int ticks) {
        return ticks < 0 || ticks > 200 ? -2 : now.forecast(ticks).pressure;
    }

    int lowestIn(int ticks) {
        if (ticks < 1 || ticks > 200) {
            return -2;
        }
        int lowest = Integer.MAX_VALUE;
        for (int behind = 1; behind <= ticks; behind++) {
            lowest = Math.min(lowest, now.forecast(behind).pressure);
        }
        return lowest;
    }

    int why(int robot, int recipe, int start, int what) {
        if (unknown(robot, recipe)) {
            return -1;
        }
        if (!now.startIsGood(start) || what < 0 || what > 2) {
            return -2;
        }
        return now.why(now.bookings.size(), robot, recipe, start)[what];
    }

    int earliest(int robot, int recipe, int from) {
        if (unknown(robot, recipe)) {
            return -1;
        }
        if (!now.startIsGood(from)) {
            return -2;
        }
        return now.firstFit(now.bookings.size(), robot, recipe, from, now.tick + 60);
    }

    int count(int what) {
        if (what < 0 || what > 17) {
            return -2;
        }
        return new int[] {now.tick, now.pressure, now.most, now.heat, now.recipes.size(), now.bookings.size(), inState(0),
            inState(1), inState(2), inState(3), inState(4), now.doomed().size(), now.wishes.size(), now.granted,
            now.dropped, now.taken, history.size(), text.length()}[what];
    }
}
