import java.util.Random;

/** Runs of drawn calls, the same each time, on the program and on the oracle. */
public final class RandomRunsTest {
    private final Random random;
    private final BoilerBook x = new BoilerBook();
    private final Oracle y = new Oracle();
    private final int flavour;
    private final StringBuilder log = new StringBuilder();

    private RandomRunsTest(int seed) {
        random = new Random(seed);
        flavour = seed % 6;
    }

    public static void main(String[] args) {
        int runs = args.length > 0 ? Integer.parseInt(args[0]) : 240;
        int first = args.length > 1 ? Integer.parseInt(args[1]) : 0;
        for (int seed = first; seed < first + runs; seed++) {
            RandomRunsTest run = new RandomRunsTest(seed);
            if (!run.agrees()) {
                System.out.println("RandomRunsTest: run " + seed + " differs");
                System.exit(1);
            }
        }
        System.out.println("RandomRunsTest: " + runs + " runs agree");
    }

    private boolean agrees() {
        for (int call = 0; call < 512; call++) {
            long[] answers = flavour != 5 && call < 4 ? recipe() : any();
            log.append(" = ").append(answers[0]).append('\n');
            if (answers[0] != answers[1]) {
                System.out.println(log + "due is " + answers[1]);
                return false;
            }
        }
        return true;
    }

    /** Mostly within the bounds, now and then at or beyond them. */
    private int in(int least, int most) {
        int kind = random.nextInt(40);
        if (kind == 0) {
            return least - 1;
        }
        if (kind == 1) {
            return most + 1;
        }
        if (kind == 2) {
            return random.nextBoolean() ? least : most;
        }
        if (kind == 3 && random.nextInt(5) == 0) {
            return random.nextInt();
        }
        return least + random.nextInt(most - least + 1);
    }

    private int start() {
        int reach = flavour == 1 ? 12 : flavour == 2 ? 30 : 60;
        return y.count(0) + in(1, reach);
    }

    private int aRecipe() {
        return in(0, Math.max(0, y.count(4) - 1));
    }

    private int aBooking() {
        return in(0, Math.max(0, y.count(5) - 1));
    }

    private int aWish() {
        return in(0, Math.max(0, y.count(12) - 1));
    }

    private void say(String name, int... arguments) {
        log.append(name);
        for (int argument : arguments) {
            log.append(' ').append(argument);
        }
    }

    private long[] recipe() {
        int floor = random.nextInt(4) == 0 ? in(0, 3000) : flavour == 2 ? in(0, 200) : in(600, 1100);
        int draw = random.nextInt(4) == 0 ? in(1, 500) : in(1, 60);
        int ticks = random.nextInt(3) == 0 ? in(1, 20) : in(1, 5);
        int cool = in(0, 9);
        say("addRecipe", floor, draw, ticks, cool);
        return new long[] {x.addRecipe(floor, draw, ticks, cool), y.addRecipe(floor, draw, ticks, cool)};
    }

    private long[] any() {
        int kind = random.nextInt(100);
        if (kind < 3) {
            return recipe();
        }
        if (kind < 10) {
            return boiler(random.nextInt(3));
        }
        if (kind < 52) {
            return bookings(random.nextInt(flavour == 3 ? 14 : 10));
        }
        if (kind < 57) {
            return pass();
        }
        if (kind < 62) {
            return history(random.nextInt(4));
        }
        if (kind < 66) {
            return text();
        }
        return told(random.nextInt(9));
    }

    private long[] boiler(int kind) {
        if (kind == 0) {
            int heat = random.nextInt(3) == 0 ? in(0, 300) : in(0, 25);
            say("setHeat", heat);
            return new long[] {x.setHeat(heat), y.setHeat(heat)};
        }
        if (kind == 1) {
            int most = random.nextInt(4) == 0 ? in(100, 3000) : in(900, 1300);
            say("setMost", most);
            return new long[] {x.setMost(most), y.setMost(most)};
        }
        int amount = random.nextInt(8) == 0 ? in(1, 3000) : in(1, 150);
        say("fall", amount);
        return new long[] {x.fall(amount), y.fall(amount)};
    }

    private long[] bookings(int kind) {
        int robot = in(0, 5);
        int recipe = aRecipe();
        int start = start();
        int booking = aBooking();
        switch (kind) {
            case 0:
                say("cancel", booking);
                return new long[] {x.cancel(booking), y.cancel(booking)};
            case 1:
                int to = random.nextInt(4) == 0 ? y.booking(booking, 2) : start;
                say("move", booking, to);
                return new long[] {x.move(booking, to), y.move(booking, to)};
            case 2:
                say("repair");
                return new long[] {x.repair(), y.repair()};
            case 3:
            case 10:
            case 11:
                say("wish", robot, recipe, start);
                return new long[] {x.wish(robot, recipe, start), y.wish(robot, recipe, start)};
            case 4:
                if (random.nextInt(3) == 0) {
                    int place = aWish();
                    say("unwish", place);
                    return new long[] {x.unwish(place), y.unwish(place)};
                }
                return boiler(2);
            default:
                say("book", robot, recipe, start);
                return new long[] {x.book(robot, recipe, start), y.book(robot, recipe, start)};
        }
    }

    private long[] pass() {
        int ticks = random.nextInt(8) == 0 ? in(1, 200) : in(1, flavour == 4 ? 2 : 6);
        if (flavour == 3 && random.nextInt(3) == 0) {
            ticks = 200;
        }
        say("pass", ticks);
        return new long[] {x.pass(ticks), y.pass(ticks)};
    }

    private long[] history(int kind) {
        switch (kind) {
            case 0:
                say("keep");
                return new long[] {x.keep(), y.keep()};
            case 1:
                if (random.nextInt(2) == 0) {
                    say("restore");
                    return new long[] {x.restore(), y.restore()};
                }
                return bookings(9);
            default:
                say("undo");
                return new long[] {x.undo(), y.undo()};
        }
    }

    /** Types a whole text, mostly without a fault, and books it. */
    private long[] text() {
        if (random.nextInt(2) == 0) {
            x.clearText();
            y.clearText();
        }
        StringBuilder told = new StringBuilder();
        int entries = 1 + random.nextInt(random.nextInt(5) == 0 ? 12 : 3);
        for (int i = 0; i < entries; i++) {
            told.append(i == 0 ? "" : ",").append(Math.abs(in(0, 5) % 10)).append(':').append(Math.abs(aRecipe() % 10));
            told.append('@').append(Math.abs(start() % 12000));
        }
        if (random.nextInt(3) == 0) {
            int at = random.nextInt(told.length());
            told.setCharAt(at, "0123456789:@,x ".charAt(random.nextInt(15)));
        }
        if (random.nextInt(6) == 0) {
            told.setLength(random.nextInt(told.length()));
        }
        for (char c : told.toString().toCharArray()) {
            int got = x.type(c);
            int due = y.type(c);
            if (got != due) {
                return new long[] {got, due};
            }
        }
        say("bookAll " + told);
        return new long[] {x.bookAll(), y.bookAll()};
    }

    private long[] told(int kind) {
        int what;
        switch (kind) {
            case 0:
                int recipe = aRecipe();
                what = in(0, 4);
                say("recipe", recipe, what);
                return new long[] {x.recipe(recipe, what), y.recipe(recipe, what)};
            case 1:
                int robot = in(0, 5);
                what = in(0, 3);
                say("robot", robot, what);
                return new long[] {x.robot(robot, what), y.robot(robot, what)};
            case 2:
                int place = aWish();
                what = in(0, 3);
                say("wishTold", place, what);
                return new long[] {x.wishTold(place, what), y.wishTold(place, what)};
            case 3:
                return pressure();
            case 4:
                return fitting();
            case 5:
            case 6:
                what = in(0, 17);
                say("count", what);
                return new long[] {x.count(what), y.count(what)};
            default:
                int booking = aBooking();
                what = in(0, 7);
                say("booking", booking, what);
                return new long[] {x.booking(booking, what), y.booking(booking, what)};
        }
    }

    private long[] pressure() {
        int ticks = in(0, 200);
        if (random.nextBoolean()) {
            say("pressureIn", ticks);
            return new long[] {x.pressureIn(ticks), y.pressureIn(ticks)};
        }
        say("lowestIn", ticks);
        return new long[] {x.lowestIn(ticks), y.lowestIn(ticks)};
    }

    private long[] fitting() {
        int robot = in(0, 5);
        int recipe = aRecipe();
        int start = start();
        if (random.nextInt(4) == 0) {
            say("earliest", robot, recipe, start);
            return new long[] {x.earliest(robot, recipe, start), y.earliest(robot, recipe, start)};
        }
        int what = in(0, 2);
        say("why", robot, recipe, start, what);
        return new long[] {x.why(robot, recipe, start, what), y.why(robot, recipe, start, what)};
    }
}
