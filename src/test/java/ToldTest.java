/** Promises 19 to 22 and 25 to 27: what is told. */
public final class ToldTest {
    private static final Check CHECK = new Check("ToldTest");

    public static void main(String[] args) {
        recipe();
        robot();
        booking();
        wishTold();
        whyBusy();
        whyDoomed();
        whyAtTheEdge();
        earliest();
        count();
        CHECK.end();
    }

    private static void due(String call, long got, long want) {
        CHECK.due(call, got, want);
    }

    private static void recipe() {
        CHECK.promise("promise 19");
        BoilerBook x = new BoilerBook();
        due("recipe(0, 9)", x.recipe(0, 9), -1);
        x.addRecipe(11, 12, 13, 4);
        x.addRecipe(0, 1, 1, 0);
        int[] told = {11, 12, 13, 4, 0, -2};
        for (int what = 0; what < told.length; what++) {
            due("recipe(0, " + what + ")", x.recipe(0, what), told[what]);
        }
        due("recipe(0, -1)", x.recipe(0, -1), -2);
        due("recipe(-1, 0)", x.recipe(-1, 0), -1);
        due("recipe(2, 0)", x.recipe(2, 0), -1);
        x.book(0, 1, 1);
        x.book(1, 1, 2);
        x.book(2, 0, 1);
        x.book(3, 1, 9);
        x.pass(3);
        due("recipe(1, 4)", x.recipe(1, 4), 2);
        due("recipe(0, 4)", x.recipe(0, 4), 0);
        x.pass(10);
        due("recipe(1, 4)", x.recipe(1, 4), 3);
        due("recipe(0, 4)", x.recipe(0, 4), 1);
    }

    private static void robot() {
        CHECK.promise("promise 20");
        BoilerBook x = new BoilerBook();
        x.addRecipe(0, 1, 3, 2);
        x.addRecipe(0, 1, 2, 0);
        due("robot(-1, 0)", x.robot(-1, 0), -1);
        due("robot(6, 9)", x.robot(6, 9), -1);
        due("robot(0, 4)", x.robot(0, 4), -2);
        due("robot(0, -1)", x.robot(0, -1), -2);
        x.book(0, 0, 1);
        x.book(0, 1, 6);
        x.book(0, 1, 9);
        due("robot(0, 0)", x.robot(0, 0), 3);
        due("robot(1, 0)", x.robot(1, 0), 0);
        // busy in 1 to 5, 6 and 7, 9 and 10
        int[] busy = {0, 1, 1, 1, 1, 1, 1, 1, 0, 1, 1, 0};
        int[] free = {0, 8, 8, 8, 8, 8, 8, 8, 8, 11, 11, 11};
        int[] open = {3, 3, 3, 2, 2, 2, 2, 1, 1, 1, 0, 0};
        for (int tick = 0; tick < busy.length; tick++) {
            due("robot(0, 2) in " + tick, x.robot(0, 2), busy[tick]);
            due("robot(0, 3) in " + tick, x.robot(0, 3), free[tick]);
            due("robot(0, 0) in " + tick, x.robot(0, 0), open[tick]);
            due("robot(0, 1) in " + tick, x.robot(0, 1), 3 - open[tick]);
            x.pass(1);
        }
        x = new BoilerBook();
        x.addRecipe(0, 1, 20, 9);
        due("book", x.book(0, 0, 1), 0);
        due("book", x.book(0, 0, 30), 1);
        due("book", x.book(0, 0, 59), 2);
        x.pass(1);
        due("the longest", x.robot(0, 3), 88);
        due("cancel", x.cancel(1), 0);
        due("robot(0, 3)", x.robot(0, 3), 30);
        due("cancel", x.cancel(0), 0);
        due("robot(0, 2)", x.robot(0, 2), 0);
        x.addRecipe(900, 10, 3, 9);
        due("book", x.book(4, 1, 3), 3);
        x.setHeat(0);
        x.fall(300);
        due("a doomed one keeps busy", x.robot(4, 0), 1);
        x.pass(2);
        due("a spoiled one does not", x.robot(4, 2), 0);
        due("robot(4, 0)", x.robot(4, 0), 0);
        due("robot(4, 1)", x.robot(4, 1), 0);
    }

    private static void booking() {
        CHECK.promise("promise 21");
        BoilerBook x = new BoilerBook();
        x.setHeat(10);
        x.addRecipe(800, 60, 3, 2);
        x.addRecipe(700, 10, 1, 0);
        due("booking(0, 9)", x.booking(0, 9), -1);
        // asked at 930, 880 and 830, then 850 at 10
        x.book(2, 0, 3);
        x.book(3, 1, 10);
        int[][] told = {{2, 0, 3, 0, 0, 2, -5, 10030}, {3, 1, 10, 0, 0, 2, -5, 10120}};
        for (int booking = 0; booking < 2; booking++) {
            for (int what = 0; what < 8; what++) {
                due("booking(" + booking + ", " + what + ")", x.booking(booking, what), told[booking][what]);
            }
        }
        due("booking(0, 8)", x.booking(0, 8), -2);
        due("booking(0, -1)", x.booking(0, -1), -2);
        due("booking(2, 0)", x.booking(2, 0), -1);
        due("booking(-1, 0)", x.booking(-1, 0), -1);
        x.pass(4);
        due("running", x.booking(0, 3), 1);
        due("drawn", x.booking(0, 4), 2);
        due("least to come", x.booking(0, 7), 10030);
        // 820 is left behind 4 ticks: then 789 is asked at 5
        due("fall(41)", x.fall(41), 1);
        due("booking(0, 3)", x.booking(0, 3), 1);
        due("booking(0, 5)", x.booking(0, 5), 3);
        due("booking(0, 6)", x.booking(0, 6), 5);
        due("booking(0, 7)", x.booking(0, 7), 9989);
        due("booking(1, 7)", x.booking(1, 7), 10000 + 779 + 60 - 700);
        x.pass(1);
        due("spoiled", x.booking(0, 3), 3);
        due("booking(0, 5)", x.booking(0, 5), 3);
        due("a spoiled one is not doomed", x.booking(0, 6), -5);
        due("booking(0, 7)", x.booking(0, 7), -5);
        due("booking(0, 4)", x.booking(0, 4), 2);
        x.pass(5);
        due("done", x.booking(1, 5), 2);
        due("booking(1, 6)", x.booking(1, 6), -5);
        due("booking(1, 7)", x.booking(1, 7), -5);
        x.book(0, 1, 20);
        x.cancel(2);
        due("cancelled", x.booking(2, 5), 4);
        due("booking(2, 6)", x.booking(2, 6), -5);
        due("booking(2, 7)", x.booking(2, 7), -5);
    }

    private static void wishTold() {
        CHECK.promise("promise 22");
        BoilerBook x = new BoilerBook();
        x.addRecipe(1300, 10, 1, 0);
        x.addRecipe(0, 10, 1, 0);
        due("wishTold(0, 0)", x.wishTold(0, 0), -1);
        due("wish", x.wish(0, 0, 1), -1 + 1);
        due("it waits for the heat", x.booking(0, 2), 20);
        x.fall(40);
        due("wish", x.wish(3, 0, 1), 1001);
        int[] told = {3, 0, 1, -5, -2};
        for (int what = 0; what < told.length; what++) {
            due("wishTold(0, " + what + ")", x.wishTold(0, what), told[what]);
        }
        x.setHeat(30);
        due("wishTold(0, 3)", x.wishTold(0, 3), 15);
        x.setHeat(50);
        due("wishTold(0, 3)", x.wishTold(0, 3), 9);
        x.pass(12);
        due("not in the past", x.wishTold(0, 3), 13);
        due("wishTold(0, 2)", x.wishTold(0, 2), 1);
        due("wishTold(1, 0)", x.wishTold(1, 0), -1);
        due("wishTold(-1, 0)", x.wishTold(-1, 0), -1);
        due("wishTold(0, 4)", x.wishTold(0, 4), -2);
        x.pass(8);
        due("the last tick", x.wishTold(0, 3), 21);
    }

    private static void whyBusy() {
        CHECK.promise("promise 25, reason 1");
        BoilerBook x = new BoilerBook();
        x.addRecipe(0, 10, 3, 2);
        x.addRecipe(0, 10, 10, 0);
        due("why(6, 0, 1, 9)", x.why(6, 0, 1, 9), -1);
        due("why(0, 2, 0, 0)", x.why(0, 2, 0, 0), -1);
        due("why(0, 0, 0, 0)", x.why(0, 0, 0, 0), -2);
        due("why(0, 0, 61, 0)", x.why(0, 0, 61, 0), -2);
        due("why(0, 0, 1, 3)", x.why(0, 0, 1, 3), -2);
        due("why(0, 0, 1, -1)", x.why(0, 0, 1, -1), -2);
        due("it would fit", x.why(0, 0, 60, 0), 0);
        due("why(0, 0, 60, 1)", x.why(0, 0, 60, 1), -5);
        due("why(0, 0, 60, 2)", x.why(0, 0, 60, 2), -5);
        due("book", x.book(0, 0, 20), 0);
        due("book", x.book(0, 0, 10), 1);
        due("book", x.book(1, 0, 15), 2);
        due("both hinder it", x.why(0, 1, 12, 0), 1);
        due("the first by its number", x.why(0, 1, 12, 1), 0);
        due("why(0, 1, 12, 2)", x.why(0, 1, 12, 2), -5);
        due("only the second", x.why(0, 1, 10, 1), 1);
        due("its last tick of cooling down", x.why(0, 0, 14, 1), 1);
        due("between both", x.why(0, 0, 15, 0), 0);
        due("too long", x.why(0, 0, 16, 1), 0);
        due("behind both", x.why(0, 0, 25, 0), 0);
        due("ahead of both", x.why(0, 0, 5, 0), 0);
        due("history", x.count(16), 4);
    }

    private static void whyDoomed() {
        CHECK.promise("promise 25, reasons 2 and 3");
        BoilerBook x = new BoilerBook();
        x.setHeat(0);
        x.addRecipe(850, 20, 4, 0);
        x.addRecipe(870, 10, 1, 0);
        x.addRecipe(0, 25, 2, 0);
        due("asked at 840 in the fourth tick", x.book(0, 0, 1), -7);
        due("why(0, 0, 1, 0)", x.why(0, 0, 1, 0), 2);
        due("why(0, 0, 1, 1)", x.why(0, 0, 1, 1), -5);
        due("why(0, 0, 1, 2)", x.why(0, 0, 1, 2), 4);
        due("book", x.book(0, 1, 20), 0);
        due("book", x.book(1, 1, 10), 1);
        due("book", x.book(2, 1, 30), 2);
        due("both would hold, itself is told first", x.why(3, 0, 8, 0), 2);
        due("why(3, 0, 8, 2)", x.why(3, 0, 8, 2), 11);
        due("two of the three", x.why(3, 2, 10, 0), 3);
        due("the lowest number", x.why(3, 2, 10, 1), 0);
        due("why(3, 2, 10, 2)", x.why(3, 2, 10, 2), 20);
        due("the last of them", x.why(3, 2, 20, 1), 2);
        due("why(3, 2, 20, 2)", x.why(3, 2, 20, 2), 30);
        due("behind them", x.why(3, 2, 30, 0), 0);
        due("fall(20)", x.fall(20), 1);
        due("count(11)", x.count(11), 1);
        due("who is doomed without it is not told", x.why(3, 2, 25, 0), 0);
        due("book", x.book(3, 2, 25), 3);
        due("busy comes first", x.why(3, 0, 26, 0), 1);
    }

    private static void whyAtTheEdge() {
        CHECK.promise("fitting");
        BoilerBook x = new BoilerBook();
        x.setHeat(0);
        x.addRecipe(881, 1, 20, 9);
        x.addRecipe(0, 1, 1, 0);
        due("its 20th tick is asked at 881", x.book(0, 0, 60), 0);
        due("booking(0, 7)", x.booking(0, 7), 10000);
        due("it is the 80th tick", x.why(1, 1, 60, 2), 79);
        due("why(1, 1, 60, 1)", x.why(1, 1, 60, 1), 0);
        due("fall(1)", x.fall(1), 1);
        due("booking(0, 6)", x.booking(0, 6), 79);
        due("robot(0, 3)", x.robot(0, 3), 0);
        x.pass(60);
        due("robot(0, 3)", x.robot(0, 3), 89);
        due("count(11)", x.count(11), 1);
        x.pass(19);
        due("booking(0, 3)", x.booking(0, 3), 3);
        due("booking(0, 4)", x.booking(0, 4), 19);
    }

    private static void earliest() {
        CHECK.promise("promise 26");
        BoilerBook x = new BoilerBook();
        x.addRecipe(1000, 50, 2, 3);
        x.addRecipe(3000, 1, 1, 0);
        due("earliest(6, 0, 1)", x.earliest(6, 0, 1), -1);
        due("earliest(0, 2, 1)", x.earliest(0, 2, 1), -1);
        due("earliest(0, -1, 0)", x.earliest(0, -1, 0), -1);
        due("earliest(0, 0, 0)", x.earliest(0, 0, 0), -2);
        due("earliest(0, 0, 61)", x.earliest(0, 0, 61), -2);
        due("none", x.earliest(0, 1, 1), -5);
        // 1040 at 7 leaves 990 and then 1010
        due("earliest(0, 0, 1)", x.earliest(0, 0, 1), 7);
        due("earliest(0, 0, 7)", x.earliest(0, 0, 7), 7);
        due("earliest(0, 0, 8)", x.earliest(0, 0, 8), 8);
        due("earliest(0, 0, 60)", x.earliest(0, 0, 60), 60);
        due("book", x.book(0, 0, 60), 0);
        due("earliest(0, 0, 56)", x.earliest(0, 0, 56), -5);
        due("earliest(0, 0, 55)", x.earliest(0, 0, 55), 55);
        due("another robot", x.earliest(1, 0, 56), 56);
        x.pass(1);
        due("earliest(0, 0, 61)", x.earliest(0, 0, 61), -5);
        x.pass(4);
        due("earliest(0, 0, 61)", x.earliest(0, 0, 61), 65);
    }

    private static void count() {
        CHECK.promise("promise 27");
        BoilerBook x = new BoilerBook();
        x.setHeat(5);
        x.setMost(1000);
        x.addRecipe(800, 30, 2, 0);
        x.addRecipe(0, 20, 4, 0);
        x.addRecipe(3000, 1, 1, 0);
        x.book(0, 1, 1);
        x.book(1, 1, 3);
        x.book(2, 1, 40);
        x.book(3, 1, 30);
        x.book(4, 0, 20);
        x.cancel(3);
        x.wish(0, 2, 1);
        x.wish(0, 2, 9);
        x.wish(5, 1, 50);
        x.pass(5);
        x.fall(500);
        x.type('9');
        x.type('9');
        int[] counts = {5, 925 - 7 * 20 - 500, 1000, 5, 3, 6, 3, 1, 1, 0, 1, 1, 2, 1, 0, 140, 4, 2, -2, -2};
        for (int what = 0; what < counts.length; what++) {
            due("count(" + what + ")", x.count(what), counts[what]);
        }
        due("count(-1)", x.count(-1), -2);
        x.pass(16);
        due("spoiled", x.count(9), 1);
        due("not doomed any more", x.count(11), 0);
        due("dropped", x.count(14), 1);
        due("count(12)", x.count(12), 1);
        due("count(8)", x.count(8), 2);
        due("count(7)", x.count(7), 0);
    }
}
