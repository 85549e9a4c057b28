/**
 * Coffee robots that share one boiler and book its steam ahead.
 *
 * <p>Every row is made once, in a constructor, and used again by each call: no call makes an object.
 */
public final class BoilerBook {
    public static final int UNKNOWN = -1;
    public static final int BAD_VALUE = -2;
    public static final int FULL = -3;
    public static final int NOT_POSSIBLE = -4;
    public static final int NONE = -5;
    public static final int BUSY = -6;
    public static final int TOO_LOW = -7;

    private static final int ROBOTS = 6;
    private static final int MOST_RECIPES = 8;
    private static final int MOST_BOOKINGS = 60;
    private static final int MOST_WISHES = 8;
    private static final int MOST_STATES = 4;
    private static final int MOST_CHARACTERS = 60;
    // "0:0@0," is the shortest entry, so that a text has room for ten
    private static final int MOST_ENTRIES = 10;
    private static final int MOST_START_DIGITS = 4;

    private static final int MOST_FLOOR = 3000;
    private static final int MOST_DRAW = 500;
    private static final int MOST_TICKS = 20;
    private static final int MOST_COOL = 9;
    private static final int MOST_HEAT = 300;
    private static final int LEAST_MOST = 100;
    private static final int MOST_MOST = 3000;
    private static final int MOST_FALL = 3000;
    private static final int MOST_PASS = 200;
    private static final int LAST_TICK = 9000;
    private static final int START_REACH = 60;
    private static final int WISH_REACH = 20;
    // the latest start is START_REACH ticks ahead, and draws in MOST_TICKS ticks from there on
    private static final int HORIZON = START_REACH + MOST_TICKS;
    // nobody is busy later than by the latest start, its ticks and its cooling down
    private static final int BUSY_HORIZON = HORIZON + MOST_COOL;

    private static final int BOOKED = 0;
    private static final int RUNNING = 1;
    private static final int DONE = 2;
    private static final int SPOILED = 3;
    private static final int CANCELLED = 4;

    private static final int FITS = 0;
    private static final int ROBOT_BUSY = 1;
    private static final int SELF_DOOMED = 2;
    private static final int OTHERS_DOOMED = 3;

    private static final int NO_ERROR = 0;
    private static final int NOBODY = -1;
    private static final int NO_FAULT = -1;
    private static final int LEFT_OUT = -1;
    private static final int WISH_WAITS = 1000;
    private static final int SPARE_BASE = 10000;
    private static final int FAULT_BASE = -100;
    // more than any pressure, and than any pressure less a floor
    private static final int ABOVE_ALL = 1000000;

    private final State now;
    private final State before;
    private final State snapshot;
    private boolean kept;
    private final History history;
    private final Text text;
    private final Course course;
    private final Judge judge;
    private final boolean[] repaired;

    public BoilerBook() {
        now = new State();
        before = new State();
        snapshot = new State();
        kept = false;
        history = new History();
        text = new Text();
        course = new Course();
        judge = new Judge();
        repaired = new boolean[MOST_BOOKINGS];
    }

    // ---- recipes and the boiler

    public int addRecipe(int floor, int draw, int ticks, int cool) {
        boolean good = within(floor, 0, MOST_FLOOR) && within(draw, 1, MOST_DRAW)
                && within(ticks, 1, MOST_TICKS) && within(cool, 0, MOST_COOL);
        if (!good) {
            return BAD_VALUE;
        }
        if (now.recipes.size >= MOST_RECIPES) {
            return FULL;
        }
        history.push(now);
        return now.recipes.append(floor, draw, ticks, cool);
    }

    public int setHeat(int heat) {
        if (!within(heat, 0, MOST_HEAT)) {
            return BAD_VALUE;
        }
        if (heat == now.heat) {
            return NONE;
        }
        history.push(now);
        now.heat = heat;
        return countDoomed();
    }

    public int setMost(int most) {
        if (!within(most, LEAST_MOST, MOST_MOST)) {
            return BAD_VALUE;
        }
        if (most == now.most) {
            return NONE;
        }
        history.push(now);
        now.most = most;
        now.pressure = Math.min(now.pressure, most);
        return now.pressure;
    }

    public int fall(int amount) {
        if (!within(amount, 1, MOST_FALL)) {
            return BAD_VALUE;
        }
        if (now.pressure == 0) {
            return NONE;
        }
        history.push(now);
        now.pressure = Math.max(0, now.pressure - amount);
        return countDoomed();
    }

    // ---- bookings

    public int book(int robot, int recipe, int start) {
        int error = errorOfBooking(robot, recipe, start);
        if (error != NO_ERROR) {
            return error;
        }
        history.push(now);
        return now.bookings.append(robot, recipe, start);
    }

    public int cancel(int booking) {
        if (!now.bookings.has(booking)) {
            return UNKNOWN;
        }
        if (!now.bookings.isOpen(booking)) {
            return NOT_POSSIBLE;
        }
        history.push(now);
        now.bookings.state[booking] = CANCELLED;
        return tryWishes();
    }

    public int move(int booking, int start) {
        Bookings bookings = now.bookings;
        if (!bookings.has(booking)) {
            return UNKNOWN;
        }
        if (bookings.state[booking] != BOOKED) {
            return NOT_POSSIBLE;
        }
        if (!now.canStart(start)) {
            return BAD_VALUE;
        }
        int robot = bookings.robot[booking];
        int recipe = bookings.recipe[booking];
        int error = errorOf(judge.reasonAgainst(now, booking, robot, recipe, start));
        // NONE waits behind BUSY and TOO_LOW, as it is returned only if no error applies
        if (error != NO_ERROR) {
            return error;
        }
        int previous = bookings.start[booking];
        if (previous == start) {
            return NONE;
        }
        history.push(now);
        bookings.start[booking] = start;
        return previous;
    }

    public int repair() {
        for (int booking = 0; booking < MOST_BOOKINGS; booking++) {
            repaired[booking] = false;
        }
        int doomed = firstToRepair();
        if (doomed == NOBODY) {
            return NONE;
        }
        history.push(now);
        int moved = 0;
        for (int round = 0; round < MOST_BOOKINGS && doomed != NOBODY; round++) {
            if (moveLaterOrCancel(doomed)) {
                moved++;
            }
            doomed = firstToRepair();
        }
        return moved;
    }

    public int wish(int robot, int recipe, int first) {
        if (!isRobot(robot) || !now.recipes.has(recipe)) {
            return UNKNOWN;
        }
        if (!now.canStart(first)) {
            return BAD_VALUE;
        }
        int start = judge.firstFit(now, now.bookings.size, robot, recipe, first, first + WISH_REACH);
        if (start != NONE && now.bookings.size < MOST_BOOKINGS) {
            history.push(now);
            now.granted++;
            return now.bookings.append(robot, recipe, start);
        }
        if (now.wishes.size >= MOST_WISHES) {
            return FULL;
        }
        history.push(now);
        return WISH_WAITS + now.wishes.append(robot, recipe, first);
    }

    public int unwish(int place) {
        if (!now.wishes.has(place)) {
            return UNKNOWN;
        }
        history.push(now);
        int recipe = now.wishes.recipe[place];
        now.wishes.takeOut(place);
        return recipe;
    }

    public int pass(int ticks) {
        if (!within(ticks, 1, MOST_PASS)) {
            return BAD_VALUE;
        }
        if (now.tick + ticks > LAST_TICK) {
            return NOT_POSSIBLE;
        }
        history.push(now);
        course.begin(now);
        course.passTicks(ticks);
        return takeOver(course);
    }

    // ---- texts

    public int type(char character) {
        if (text.length >= MOST_CHARACTERS) {
            return FULL;
        }
        return text.append(character);
    }

    public int clearText() {
        int length = text.length;
        text.length = 0;
        return length;
    }

    public int bookAll() {
        int fault = text.read();
        if (fault != NO_FAULT) {
            return FAULT_BASE - fault;
        }
        before.copyFrom(now);
        for (int entry = 0; entry < text.entries; entry++) {
            int error = errorOfBooking(text.robot[entry], text.recipe[entry], text.start[entry]);
            if (error != NO_ERROR) {
                now.copyFrom(before);
                return error;
            }
            now.bookings.append(text.robot[entry], text.recipe[entry], text.start[entry]);
        }
        history.push(before);
        return text.entries;
    }

    // ---- history

    public int undo() {
        if (history.size == 0) {
            return NONE;
        }
        history.popInto(now);
        return history.size;
    }

    public int keep() {
        snapshot.copyFrom(now);
        kept = true;
        return now.tick;
    }

    public int restore() {
        if (!kept) {
            return NONE;
        }
        history.push(now);
        now.copyFrom(snapshot);
        return now.tick;
    }

    // ---- what is told

    public int recipe(int recipe, int what) {
        if (!now.recipes.has(recipe)) {
            return UNKNOWN;
        }
        switch (what) {
            case 0: return now.recipes.floor[recipe];
            case 1: return now.recipes.draw[recipe];
            case 2: return now.recipes.ticks[recipe];
            case 3: return now.recipes.cool[recipe];
            case 4: return now.bookings.doneOfRecipe(recipe);
            default: return BAD_VALUE;
        }
    }

    public int robot(int robot, int what) {
        if (!isRobot(robot)) {
            return UNKNOWN;
        }
        switch (what) {
            case 0: return now.bookings.ofRobot(robot, BOOKED) + now.bookings.ofRobot(robot, RUNNING);
            case 1: return now.bookings.ofRobot(robot, DONE);
            case 2: return now.isBusyIn(robot, now.tick) ? 1 : 0;
            case 3: return now.firstFreeTick(robot);
            default: return BAD_VALUE;
        }
    }

    public int booking(int booking, int what) {
        Bookings bookings = now.bookings;
        if (!bookings.has(booking)) {
            return UNKNOWN;
        }
        switch (what) {
            case 0: return bookings.robot[booking];
            case 1: return bookings.recipe[booking];
            case 2: return bookings.start[booking];
            case 3: return bookings.state[booking];
            case 4: return bookings.drawn[booking];
            case 5: return stateInTheEnd(booking);
            case 6: return tickOfSpoiling(booking);
            case 7: return leastSpare(booking);
            default: return BAD_VALUE;
        }
    }

    public int wishTold(int place, int what) {
        Wishes wishes = now.wishes;
        if (!wishes.has(place)) {
            return UNKNOWN;
        }
        switch (what) {
            case 0: return wishes.robot[place];
            case 1: return wishes.recipe[place];
            case 2: return wishes.first[place];
            case 3: return judge.firstFit(now, now.bookings.size, wishes.robot[place], wishes.recipe[place],
                    wishes.first[place], wishes.first[place] + WISH_REACH);
            default: return BAD_VALUE;
        }
    }

    public int pressureIn(int ticks) {
        if (!within(ticks, 0, MOST_PASS)) {
            return BAD_VALUE;
        }
        course.begin(now);
        course.passTicks(ticks);
        return course.pressure;
    }

    public int lowestIn(int ticks) {
        if (!within(ticks, 1, MOST_PASS)) {
            return BAD_VALUE;
        }
        course.begin(now);
        course.passTicks(ticks);
        return course.lowest;
    }

    public int why(int robot, int recipe, int start, int what) {
        if (!isRobot(robot) || !now.recipes.has(recipe)) {
            return UNKNOWN;
        }
        if (!now.canStart(start) || !within(what, 0, 2)) {
            return BAD_VALUE;
        }
        int reason = judge.reasonAgainst(now, now.bookings.size, robot, recipe, start);
        switch (what) {
            case 0: return reason;
            case 1: return judge.culprit;
            default: return judge.spoiledIn;
        }
    }

    public int earliest(int robot, int recipe, int from) {
        if (!isRobot(robot) || !now.recipes.has(recipe)) {
            return UNKNOWN;
        }
        if (!now.canStart(from)) {
            return BAD_VALUE;
        }
        return judge.firstFit(now, now.bookings.size, robot, recipe, from, from + START_REACH);
    }

    public int count(int what) {
        if (within(what, 6, 10)) {
            return now.bookings.inState(what - 6);
        }
        switch (what) {
            case 0: return now.tick;
            case 1: return now.pressure;
            case 2: return now.most;
            case 3: return now.heat;
            case 4: return now.recipes.size;
            case 5: return now.bookings.size;
            case 11: return countDoomed();
            case 12: return now.wishes.size;
            case 13: return now.granted;
            case 14: return now.dropped;
            case 15: return now.drawn;
            case 16: return history.size;
            case 17: return text.length;
            default: return BAD_VALUE;
        }
    }

    // ---- behind the calls

    private static boolean within(int value, int least, int most) {
        return value >= least && value <= most;
    }

    private static boolean isRobot(int robot) {
        return within(robot, 0, ROBOTS - 1);
    }

    private static int errorOf(int reason) {
        switch (reason) {
            case FITS: return NO_ERROR;
            case ROBOT_BUSY: return BUSY;
            default: return TOO_LOW;
        }
    }

    private int errorOfBooking(int robot, int recipe, int start) {
        if (!isRobot(robot) || !now.recipes.has(recipe)) {
            return UNKNOWN;
        }
        if (!now.canStart(start)) {
            return BAD_VALUE;
        }
        if (now.bookings.size >= MOST_BOOKINGS) {
            return FULL;
        }
        return errorOf(judge.reasonAgainst(now, now.bookings.size, robot, recipe, start));
    }

    private void forecastToEnd() {
        course.begin(now);
        course.passToEnd();
    }

    private int countDoomed() {
        forecastToEnd();
        return course.countSpoiled();
    }

    private int stateInTheEnd(int booking) {
        forecastToEnd();
        int row = course.rowOf(booking);
        return row == NOBODY ? now.bookings.stateOf(booking) : course.state[row];
    }

    private int tickOfSpoiling(int booking) {
        forecastToEnd();
        int row = course.rowOf(booking);
        return row == NOBODY ? NONE : course.spoiledIn[row];
    }

    private int leastSpare(int booking) {
        forecastToEnd();
        int row = course.rowOf(booking);
        return row == NOBODY ? NONE : SPARE_BASE + course.leastSpare[row];
    }

    private int tryWishes() {
        Wishes wishes = now.wishes;
        int tries = wishes.size;
        int place = 0;
        for (int attempt = 0; attempt < tries && wishes.has(place); attempt++) {
            int robot = wishes.robot[place];
            int recipe = wishes.recipe[place];
            int first = wishes.first[place];
            boolean room = now.bookings.size < MOST_BOOKINGS;
            int start = room ? judge.firstFit(now, now.bookings.size, robot, recipe, first, first + WISH_REACH) : NONE;
            if (start == NONE) {
                place++;
            } else {
                // a granted wish leaves the list, and the next one stands in its place then
                wishes.takeOut(place);
                now.bookings.append(robot, recipe, start);
            }
        }
        int granted = tries - wishes.size;
        now.granted += granted;
        return granted;
    }

    private int firstToRepair() {
        forecastToEnd();
        for (int row = 0; row < course.rows; row++) {
            int booking = course.number[row];
            if (course.state[row] == SPOILED && now.bookings.stateOf(booking) == BOOKED && !wasRepaired(booking)) {
                return booking;
            }
        }
        return NOBODY;
    }

    private boolean wasRepaired(int booking) {
        return booking < 0 || booking >= MOST_BOOKINGS || repaired[booking];
    }

    private boolean moveLaterOrCancel(int booking) {
        Bookings bookings = now.bookings;
        if (!bookings.has(booking)) {
            return false;
        }
        repaired[booking] = true;
        int start = judge.firstFit(now, booking, bookings.robot[booking], bookings.recipe[booking],
                bookings.start[booking] + 1, bookings.start[booking] + START_REACH);
        if (start == NONE) {
            bookings.state[booking] = CANCELLED;
            return false;
        }
        bookings.start[booking] = start;
        return true;
    }

    /** Makes the course real, and answers how many bookings were done in it. */
    private int takeOver(Course passed) {
        int done = 0;
        for (int row = 0; row < passed.rows; row++) {
            int booking = passed.number[row];
            if (now.bookings.has(booking)) {
                now.bookings.state[booking] = passed.state[row];
                now.bookings.drawn[booking] = passed.drawn[row];
            }
            if (passed.state[row] == DONE) {
                done++;
            }
        }
        now.tick = passed.tick;
        now.pressure = passed.pressure;
        now.drawn += passed.taken;
        // no wish is tried while ticks pass, so that dropping them behind the last tick is the same
        now.dropped += now.wishes.dropUntil(now.tick);
        return done;
    }

    // ---- the parts of a state

    private static final class Recipes {
        int size;
        final int[] floor;
        final int[] draw;
        final int[] ticks;
        final int[] cool;

        Recipes() {
            floor = new int[MOST_RECIPES];
            draw = new int[MOST_RECIPES];
            ticks = new int[MOST_RECIPES];
            cool = new int[MOST_RECIPES];
        }

        boolean has(int recipe) {
            return recipe >= 0 && recipe < size;
        }

        int append(int newFloor, int newDraw, int newTicks, int newCool) {
            if (size >= MOST_RECIPES) {
                return FULL;
            }
            floor[size] = newFloor;
            draw[size] = newDraw;
            ticks[size] = newTicks;
            cool[size] = newCool;
            size++;
            return size - 1;
        }

        int lastBusy(int recipe, int start) {
            return has(recipe) ? start + ticks[recipe] - 1 + cool[recipe] : start;
        }

        void copyFrom(Recipes other) {
            size = other.size;
            System.arraycopy(other.floor, 0, floor, 0, MOST_RECIPES);
            System.arraycopy(other.draw, 0, draw, 0, MOST_RECIPES);
            System.arraycopy(other.ticks, 0, ticks, 0, MOST_RECIPES);
            System.arraycopy(other.cool, 0, cool, 0, MOST_RECIPES);
        }
    }

    private static final class Bookings {
        int size;
        final int[] robot;
        final int[] recipe;
        final int[] start;
        final int[] state;
        final int[] drawn;

        Bookings() {
            robot = new int[MOST_BOOKINGS];
            recipe = new int[MOST_BOOKINGS];
            start = new int[MOST_BOOKINGS];
            state = new int[MOST_BOOKINGS];
            drawn = new int[MOST_BOOKINGS];
        }

        boolean has(int booking) {
            return booking >= 0 && booking < size;
        }

        int append(int newRobot, int newRecipe, int newStart) {
            if (size >= MOST_BOOKINGS) {
                return FULL;
            }
            robot[size] = newRobot;
            recipe[size] = newRecipe;
            start[size] = newStart;
            state[size] = BOOKED;
            drawn[size] = 0;
            size++;
            return size - 1;
        }

        int stateOf(int booking) {
            return has(booking) ? state[booking] : UNKNOWN;
        }

        boolean isOpen(int booking) {
            return has(booking) && (state[booking] == BOOKED || state[booking] == RUNNING);
        }

        boolean keepsBusy(int booking, int ofRobot) {
            return has(booking) && robot[booking] == ofRobot
                    && state[booking] != SPOILED && state[booking] != CANCELLED;
        }

        int inState(int wanted) {
            int found = 0;
            for (int booking = 0; booking < size; booking++) {
                if (state[booking] == wanted) {
                    found++;
                }
            }
            return found;
        }

        int ofRobot(int wantedRobot, int wantedState) {
            int found = 0;
            for (int booking = 0; booking < size; booking++) {
                if (robot[booking] == wantedRobot && state[booking] == wantedState) {
                    found++;
                }
            }
            return found;
        }

        int doneOfRecipe(int wantedRecipe) {
            int found = 0;
            for (int booking = 0; booking < size; booking++) {
                if (recipe[booking] == wantedRecipe && state[booking] == DONE) {
                    found++;
                }
            }
            return found;
        }

        void copyFrom(Bookings other) {
            size = other.size;
            System.arraycopy(other.robot, 0, robot, 0, MOST_BOOKINGS);
            System.arraycopy(other.recipe, 0, recipe, 0, MOST_BOOKINGS);
            System.arraycopy(other.start, 0, start, 0, MOST_BOOKINGS);
            System.arraycopy(other.state, 0, state, 0, MOST_BOOKINGS);
            System.arraycopy(other.drawn, 0, drawn, 0, MOST_BOOKINGS);
        }
    }

    private static final class Wishes {
        int size;
        final int[] robot;
        final int[] recipe;
        final int[] first;

        Wishes() {
            robot = new int[MOST_WISHES];
            recipe = new int[MOST_WISHES];
            first = new int[MOST_WISHES];
        }

        boolean has(int place) {
            return place >= 0 && place < size;
        }

        /** Answers the length of the list then. */
        int append(int newRobot, int newRecipe, int newFirst) {
            if (size < MOST_WISHES) {
                robot[size] = newRobot;
                recipe[size] = newRecipe;
                first[size] = newFirst;
                size++;
            }
            return size;
        }

        void takeOut(int place) {
            if (!has(place)) {
                return;
            }
            for (int behind = place + 1; behind < size; behind++) {
                robot[behind - 1] = robot[behind];
                recipe[behind - 1] = recipe[behind];
                first[behind - 1] = first[behind];
            }
            size--;
        }

        /** Answers how many are dropped. */
        int dropUntil(int tick) {
            int droppedHere = 0;
            for (int place = size - 1; place >= 0; place--) {
                if (first[place] + WISH_REACH <= tick) {
                    takeOut(place);
                    droppedHere++;
                }
            }
            return droppedHere;
        }

        void copyFrom(Wishes other) {
            size = other.size;
            System.arraycopy(other.robot, 0, robot, 0, MOST_WISHES);
            System.arraycopy(other.recipe, 0, recipe, 0, MOST_WISHES);
            System.arraycopy(other.first, 0, first, 0, MOST_WISHES);
        }
    }

    /** Everything but the text, the history and the snapshot. */
    private static final class State {
        int tick;
        int pressure;
        int most;
        int heat;
        int granted;
        int dropped;
        int drawn;
        final Recipes recipes;
        final Bookings bookings;
        final Wishes wishes;

        State() {
            pressure = 900;
            most = 1500;
            heat = 20;
            recipes = new Recipes();
            bookings = new Bookings();
            wishes = new Wishes();
        }

        boolean canStart(int start) {
            return start > tick && start <= tick + START_REACH;
        }

        /** The first booking but one that keeps the robot busy in a tick from first to last, or NOBODY. */
        int firstMeeting(int robot, int first, int last, int but) {
            for (int booking = 0; booking < bookings.size; booking++) {
                if (booking != but && bookings.keepsBusy(booking, robot)
                        && bookings.start[booking] <= last
                        && recipes.lastBusy(bookings.recipe[booking], bookings.start[booking]) >= first) {
                    return booking;
                }
            }
            return NOBODY;
        }

        boolean isBusyIn(int robot, int inTick) {
            return firstMeeting(robot, inTick, inTick, NOBODY) != NOBODY;
        }

        int firstFreeTick(int robot) {
            for (int later = 0; later < BUSY_HORIZON; later++) {
                if (!isBusyIn(robot, tick + later)) {
                    return tick + later;
                }
            }
            return tick + BUSY_HORIZON;
        }

        void copyFrom(State other) {
            tick = other.tick;
            pressure = other.pressure;
            most = other.most;
            heat = other.heat;
            granted = other.granted;
            dropped = other.dropped;
            drawn = other.drawn;
            recipes.copyFrom(other.recipes);
            bookings.copyFrom(other.bookings);
            wishes.copyFrom(other.wishes);
        }
    }

    // ---- what works on states

    /** Ticks that pass, as a forecast or in earnest: the pressure, and a row for each booking that still draws. */
    private static final class Course {
        // one more than there can be bookings, as fitting is asked with 60 of them too
        private static final int MOST_ROWS = MOST_BOOKINGS + 1;

        int tick;
        int pressure;
        private int most;
        private int heat;
        int lowest;
        int taken;
        int rows;
        private int openRows;
        final int[] number;
        final int[] state;
        final int[] drawn;
        final int[] spoiledIn;
        final int[] leastSpare;
        private final int[] floor;
        private final int[] draw;
        private final int[] first;
        private final int[] last;

        Course() {
            number = new int[MOST_ROWS];
            state = new int[MOST_ROWS];
            drawn = new int[MOST_ROWS];
            spoiledIn = new int[MOST_ROWS];
            leastSpare = new int[MOST_ROWS];
            floor = new int[MOST_ROWS];
            draw = new int[MOST_ROWS];
            first = new int[MOST_ROWS];
            last = new int[MOST_ROWS];
        }

        void begin(State from) {
            beginWith(from, NOBODY, NOBODY, LEFT_OUT);
        }

        /** Begins as if the booking of that number had that recipe and start; LEFT_OUT: as if it were not there. */
        void beginWith(State from, int changed, int recipe, int start) {
            tick = from.tick;
            pressure = from.pressure;
            most = from.most;
            heat = from.heat;
            lowest = ABOVE_ALL;
            taken = 0;
            rows = 0;
            // rows stand by their number, which is the order in which they draw
            for (int booking = 0; booking < from.bookings.size; booking++) {
                if (booking != changed && from.bookings.isOpen(booking)) {
                    addRow(from, booking, from.bookings.recipe[booking], from.bookings.start[booking]);
                } else if (booking == changed && start != LEFT_OUT) {
                    addRow(from, changed, recipe, start);
                }
            }
            if (changed >= from.bookings.size && start != LEFT_OUT) {
                addRow(from, changed, recipe, start);
            }
            openRows = rows;
        }

        private void addRow(State from, int booking, int recipe, int start) {
            if (rows >= MOST_ROWS || !from.recipes.has(recipe)) {
                return;
            }
            boolean known = from.bookings.has(booking);
            number[rows] = booking;
            state[rows] = known ? from.bookings.state[booking] : BOOKED;
            drawn[rows] = known ? from.bookings.drawn[booking] : 0;
            spoiledIn[rows] = NONE;
            leastSpare[rows] = ABOVE_ALL;
            floor[rows] = from.recipes.floor[recipe];
            draw[rows] = from.recipes.draw[recipe];
            first[rows] = start;
            last[rows] = start + from.recipes.ticks[recipe] - 1;
            rows++;
        }

        void passTicks(int ticks) {
            for (int passed = 0; passed < ticks; passed++) {
                passTick();
            }
        }

        void passToEnd() {
            for (int passed = 0; passed < HORIZON && openRows > 0; passed++) {
                passTick();
            }
        }

        private void passTick() {
            tick++;
            pressure = Math.min(most, pressure + heat);
            for (int row = 0; row < rows; row++) {
                if (first[row] <= tick && tick <= last[row] && state[row] != SPOILED) {
                    drawFor(row);
                }
            }
            lowest = Math.min(lowest, pressure);
        }

        private void drawFor(int row) {
            if (row < 0 || row >= rows) {
                return;
            }
            int spare = pressure - floor[row];
            if (spare < leastSpare[row]) {
                leastSpare[row] = spare;
            }
            if (spare < 0) {
                state[row] = SPOILED;
                spoiledIn[row] = tick;
                openRows--;
                return;
            }
            int takenHere = draw[row] < pressure ? draw[row] : pressure;
            pressure -= takenHere;
            taken += takenHere;
            drawn[row]++;
            state[row] = RUNNING;
            if (tick == last[row]) {
                state[row] = DONE;
                openRows--;
            }
        }

        int rowOf(int booking) {
            for (int row = 0; row < rows; row++) {
                if (number[row] == booking) {
                    return row;
                }
            }
            return NOBODY;
        }

        int countSpoiled() {
            int spoiled = 0;
            for (int row = 0; row < rows; row++) {
                if (state[row] == SPOILED) {
                    spoiled++;
                }
            }
            return spoiled;
        }
    }

    /** Tells whether a booking fits, and if not, who would suffer and when. */
    private static final class Judge {
        private final Course course;
        private final boolean[] doomedWithout;
        int culprit;
        int spoiledIn;

        Judge() {
            course = new Course();
            doomedWithout = new boolean[MOST_BOOKINGS];
        }

        int reasonAgainst(State now, int booking, int robot, int recipe, int start) {
            forecastWithout(now, booking);
            return reasonNow(now, booking, robot, recipe, start);
        }

        /** The first start between the two at which it fits, of those that a booking can have now, or NONE. */
        int firstFit(State now, int booking, int robot, int recipe, int from, int to) {
            forecastWithout(now, booking);
            int earliestStart = Math.max(from, now.tick + 1);
            int latestStart = Math.min(to, now.tick + START_REACH);
            for (int start = earliestStart; start <= latestStart; start++) {
                if (reasonNow(now, booking, robot, recipe, start) == FITS) {
                    return start;
                }
            }
            return NONE;
        }

        private void forecastWithout(State now, int booking) {
            course.beginWith(now, booking, NOBODY, LEFT_OUT);
            course.passToEnd();
            for (int number = 0; number < MOST_BOOKINGS; number++) {
                doomedWithout[number] = false;
            }
            for (int row = 0; row < course.rows; row++) {
                int number = course.number[row];
                if (number >= 0 && number < MOST_BOOKINGS) {
                    doomedWithout[number] = course.state[row] == SPOILED;
                }
            }
        }

        private int reasonNow(State now, int booking, int robot, int recipe, int start) {
            spoiledIn = NONE;
            culprit = now.firstMeeting(robot, start, now.recipes.lastBusy(recipe, start), booking);
            if (culprit != NOBODY) {
                return ROBOT_BUSY;
            }
            culprit = NONE;
            course.beginWith(now, booking, recipe, start);
            course.passToEnd();
            int own = course.rowOf(booking);
            if (own != NOBODY && course.state[own] == SPOILED) {
                spoiledIn = course.spoiledIn[own];
                return SELF_DOOMED;
            }
            return reasonByOthers(booking);
        }

        private int reasonByOthers(int booking) {
            for (int row = 0; row < course.rows; row++) {
                int number = course.number[row];
                if (number != booking && course.state[row] == SPOILED && !wasDoomed(number)) {
                    culprit = number;
                    spoiledIn = course.spoiledIn[row];
                    return OTHERS_DOOMED;
                }
            }
            return FITS;
        }

        private boolean wasDoomed(int number) {
            return number >= 0 && number < MOST_BOOKINGS && doomedWithout[number];
        }
    }

    private static final class History {
        private final State[] states;
        int size;

        History() {
            states = new State[MOST_STATES];
            for (int place = 0; place < MOST_STATES; place++) {
                states[place] = new State();
            }
        }

        void push(State state) {
            if (size >= MOST_STATES) {
                dropOldest();
            }
            if (size < 0 || size >= MOST_STATES) {
                return;
            }
            State place = states[size];
            if (place != null) {
                place.copyFrom(state);
                size++;
            }
        }

        /** The object of the oldest state is used again for the next one. */
        private void dropOldest() {
            State oldest = states[0];
            for (int place = 1; place < MOST_STATES; place++) {
                states[place - 1] = states[place];
            }
            states[MOST_STATES - 1] = oldest;
            size--;
        }

        void popInto(State state) {
            if (size <= 0 || size > MOST_STATES) {
                return;
            }
            size--;
            State latest = states[size];
            if (latest != null) {
                state.copyFrom(latest);
            }
        }
    }

    /** The text, and what the latest reading of it found. */
    private static final class Text {
        private final char[] characters;
        int length;
        int entries;
        final int[] robot;
        final int[] recipe;
        final int[] start;
        private int at;

        Text() {
            characters = new char[MOST_CHARACTERS];
            robot = new int[MOST_ENTRIES];
            recipe = new int[MOST_ENTRIES];
            start = new int[MOST_ENTRIES];
        }

        int append(char character) {
            if (length >= 0 && length < MOST_CHARACTERS) {
                characters[length] = character;
                length++;
            }
            return length;
        }

        /** Answers the fault of the text, or NO_FAULT. */
        int read() {
            entries = 0;
            at = 0;
            for (int entry = 0; entry < MOST_ENTRIES; entry++) {
                if (!readEntry(entry)) {
                    return at;
                }
                entries++;
                if (at == length) {
                    return NO_FAULT;
                }
                if (!skip(',')) {
                    return at;
                }
            }
            return at;
        }

        /** Answers false if there is a fault, which is where the reading stands then. */
        private boolean readEntry(int entry) {
            if (entry < 0 || entry >= MOST_ENTRIES || !isDigit()) {
                return false;
            }
            robot[entry] = takeDigit();
            if (!skip(':') || !isDigit()) {
                return false;
            }
            recipe[entry] = takeDigit();
            if (!skip('@') || !isDigit()) {
                return false;
            }
            start[entry] = takeStart();
            return true;
        }

        private int takeStart() {
            int value = takeDigit();
            if (value == 0) {
                return 0;
            }
            for (int digit = 1; digit < MOST_START_DIGITS && isDigit(); digit++) {
                value = value * 10 + takeDigit();
            }
            return value;
        }

        private char current() {
            return at >= 0 && at < length && at < MOST_CHARACTERS ? characters[at] : (char) 0;
        }

        private boolean isDigit() {
            return current() >= '0' && current() <= '9';
        }

        private int takeDigit() {
            int value = current() - '0';
            at++;
            return value;
        }

        private boolean skip(char expected) {
            if (current() != expected) {
                return false;
            }
            at++;
            return true;
        }
    }
}
