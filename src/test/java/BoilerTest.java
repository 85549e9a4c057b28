/** Promises 1 to 5, 12, 23 and 24: the boiler, its recipes and its ticks. */
public final class BoilerTest {
    private static final Check CHECK = new Check("BoilerTest");

    public static void main(String[] args) {
        newObject();
        recipes();
        heat();
        most();
        fall();
        pass();
        spoiling();
        pressureAhead();
        CHECK.end();
    }

    private static void due(String call, long got, long want) {
        CHECK.due(call, got, want);
    }

    private static void newObject() {
        CHECK.promise("promise 1");
        BoilerBook x = new BoilerBook();
        int[] counts = {0, 900, 1500, 20, 0, 0, 0, 0, 0, 0, 0, 0, 0, 0, 0, 0, 0, 0};
        for (int what = 0; what < counts.length; what++) {
            due("count(" + what + ")", x.count(what), counts[what]);
        }
        due("recipe(0, 0)", x.recipe(0, 0), -1);
        due("booking(0, 0)", x.booking(0, 0), -1);
        due("wishTold(0, 0)", x.wishTold(0, 0), -1);
        due("robot(5, 3)", x.robot(5, 3), 0);
        due("undo()", x.undo(), -5);
        due("restore()", x.restore(), -5);
        due("bookAll()", x.bookAll(), -100);
        due("repair()", x.repair(), -5);
    }

    private static void recipes() {
        CHECK.promise("promise 2");
        BoilerBook x = new BoilerBook();
        int[][] bad = {{-1, 1, 1, 0}, {3001, 1, 1, 0}, {0, 0, 1, 0}, {0, 501, 1, 0}, {0, 1, 0, 0}, {0, 1, 21, 0},
            {0, 1, 1, -1}, {0, 1, 1, 10}, {Integer.MIN_VALUE, 1, 1, 0}, {0, Integer.MAX_VALUE, 1, 0}};
        for (int[] row : bad) {
            due("a bad recipe", x.addRecipe(row[0], row[1], row[2], row[3]), -2);
        }
        due("count(4)", x.count(4), 0);
        due("count(16)", x.count(16), 0);
        due("the least", x.addRecipe(0, 1, 1, 0), 0);
        due("the greatest", x.addRecipe(3000, 500, 20, 9), 1);
        due("history", x.count(16), 2);
        for (int recipe = 2; recipe < 8; recipe++) {
            due("recipe " + recipe, x.addRecipe(recipe, 10 + recipe, 1 + recipe, recipe), recipe);
        }
        due("the ninth", x.addRecipe(0, 1, 1, 0), -3);
        due("a bad ninth", x.addRecipe(-1, 1, 1, 0), -2);
        due("count(4)", x.count(4), 8);
        due("recipe(1, 0)", x.recipe(1, 0), 3000);
        due("recipe(1, 1)", x.recipe(1, 1), 500);
        due("recipe(1, 2)", x.recipe(1, 2), 20);
        due("recipe(1, 3)", x.recipe(1, 3), 9);
    }

    private static void heat() {
        CHECK.promise("promise 3");
        BoilerBook x = new BoilerBook();
        due("setHeat(-1)", x.setHeat(-1), -2);
        due("setHeat(301)", x.setHeat(301), -2);
        due("setHeat(20)", x.setHeat(20), -5);
        due("history", x.count(16), 0);
        due("setHeat(0)", x.setHeat(0), 0);
        due("setHeat(300)", x.setHeat(300), 0);
        due("count(3)", x.count(3), 300);
        due("history", x.count(16), 2);
        due("addRecipe", x.addRecipe(1000, 10, 1, 0), 0);
        due("book", x.book(0, 0, 3), 0);
        due("book", x.book(1, 0, 4), 1);
        due("book", x.book(2, 0, 5), 2);
        // 900 + 4 * 30 = 1020: the third is asked behind the draws of two: 900 + 150 - 20
        due("setHeat(30)", x.setHeat(30), 1);
        due("setHeat(20)", x.setHeat(20), 2);
        due("count(11)", x.count(11), 2);
    }

    private static void most() {
        CHECK.promise("promise 4");
        BoilerBook x = new BoilerBook();
        due("setMost(99)", x.setMost(99), -2);
        due("setMost(3001)", x.setMost(3001), -2);
        due("setMost(1500)", x.setMost(1500), -5);
        due("history", x.count(16), 0);
        due("setMost(3000)", x.setMost(3000), 900);
        due("setMost(901)", x.setMost(901), 900);
        due("setMost(100)", x.setMost(100), 100);
        due("count(1)", x.count(1), 100);
        due("count(2)", x.count(2), 100);
        due("history", x.count(16), 3);
        due("setMost(200)", x.setMost(200), 100);
        due("pass(200)", x.pass(200), 0);
        due("count(1)", x.count(1), 200);
    }

    private static void fall() {
        CHECK.promise("promise 5");
        BoilerBook x = new BoilerBook();
        due("fall(0)", x.fall(0), -2);
        due("fall(3001)", x.fall(3001), -2);
        due("addRecipe", x.addRecipe(900, 10, 1, 0), 0);
        due("book", x.book(0, 0, 1), 0);
        due("book", x.book(1, 0, 2), 1);
        due("fall(20)", x.fall(20), 0);
        due("fall(11)", x.fall(11), 1);
        due("fall(1)", x.fall(1), 1);
        due("count(1)", x.count(1), 868);
        due("fall(3000)", x.fall(3000), 2);
        due("count(1)", x.count(1), 0);
        due("count(15)", x.count(15), 0);
        due("fall(1)", x.fall(1), -5);
        due("fall(0)", x.fall(0), -2);
        due("history", x.count(16), 4);
    }

    private static void pass() {
        CHECK.promise("promise 12");
        BoilerBook x = new BoilerBook();
        due("pass(0)", x.pass(0), -2);
        due("pass(-1)", x.pass(-1), -2);
        due("pass(201)", x.pass(201), -2);
        due("pass(1)", x.pass(1), 0);
        due("count(0)", x.count(0), 1);
        due("count(1)", x.count(1), 920);
        due("addRecipe", x.addRecipe(0, 50, 3, 0), 0);
        due("book", x.book(0, 0, 2), 0);
        due("book", x.book(1, 0, 3), 1);
        due("pass(1)", x.pass(1), 0);
        due("booking(0, 3)", x.booking(0, 3), 1);
        due("booking(0, 4)", x.booking(0, 4), 1);
        due("booking(1, 3)", x.booking(1, 3), 0);
        due("count(15)", x.count(15), 50);
        due("pass(2)", x.pass(2), 1);
        due("booking(0, 3)", x.booking(0, 3), 2);
        due("booking(0, 4)", x.booking(0, 4), 3);
        due("count(15)", x.count(15), 250);
        due("count(1)", x.count(1), 900 + 4 * 20 - 250);
        due("pass(1)", x.pass(1), 1);
        for (int hundreds = 0; hundreds < 44; hundreds++) {
            x.pass(200);
        }
        due("count(0)", x.count(0), 8805);
        due("pass(196)", x.pass(196), -4);
        due("pass(201)", x.pass(201), -2);
        due("pass(195)", x.pass(195), 0);
        due("pass(1)", x.pass(1), -4);
        due("count(0)", x.count(0), 9000);
        due("book at the last start", x.book(0, 0, 9060), 2);
        due("book later", x.book(0, 0, 9061), -2);
        due("booking(2, 5)", x.booking(2, 5), 2);
    }

    private static void spoiling() {
        CHECK.promise("a tick");
        BoilerBook x = new BoilerBook();
        x.setHeat(0);
        x.addRecipe(500, 200, 3, 0);
        x.addRecipe(0, 500, 1, 0);
        due("book", x.book(0, 0, 1), 0);
        due("fall", x.fall(100), 1);
        // 800, 600 and 400 are asked: the third tick spoils it
        due("booking(0, 6)", x.booking(0, 6), 3);
        due("pass(3)", x.pass(3), 0);
        due("booking(0, 3)", x.booking(0, 3), 3);
        due("booking(0, 4)", x.booking(0, 4), 2);
        due("count(1)", x.count(1), 400);
        due("book", x.book(0, 1, 4), 1);
        due("pass(1)", x.pass(1), 1);
        due("a draw leaves at least 0", x.count(1), 0);
        due("what it took", x.count(15), 800);
        x = new BoilerBook();
        x.setMost(910);
        x.addRecipe(910, 10, 1, 0);
        due("the heat comes first, up to the greatest", x.book(0, 0, 1), 0);
        due("its number decides, not its robot", x.book(1, 0, 1), -7);
        due("pass(1)", x.pass(1), 1);
        due("count(1)", x.count(1), 900);
    }

    private static void pressureAhead() {
        CHECK.promise("promises 23 and 24");
        BoilerBook x = new BoilerBook();
        x.addRecipe(0, 100, 2, 0);
        due("book", x.book(0, 0, 3), 0);
        int[] pressures = {900, 920, 940, 860, 780, 800, 820};
        for (int ticks = 0; ticks < pressures.length; ticks++) {
            due("pressureIn(" + ticks + ")", x.pressureIn(ticks), pressures[ticks]);
        }
        due("pressureIn(200)", x.pressureIn(200), 1500);
        due("pressureIn(-1)", x.pressureIn(-1), -2);
        due("pressureIn(201)", x.pressureIn(201), -2);
        int[] lowest = {0, 920, 920, 860, 780, 780, 780};
        for (int ticks = 1; ticks < lowest.length; ticks++) {
            due("lowestIn(" + ticks + ")", x.lowestIn(ticks), lowest[ticks]);
        }
        due("lowestIn(200)", x.lowestIn(200), 780);
        due("lowestIn(0)", x.lowestIn(0), -2);
        due("lowestIn(201)", x.lowestIn(201), -2);
        due("count(0)", x.count(0), 0);
        due("history", x.count(16), 2);
    }
}
