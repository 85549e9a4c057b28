/** Promises 6 to 11: bookings, repairs and wishes. */
public final class BookingTest {
    private static final Check CHECK = new Check("BookingTest");

    public static void main(String[] args) {
        book();
        bookSixty();
        cancel();
        cancelTriesEachWish();
        move();
        moveToTheSameStart();
        repair();
        repairCancels();
        repairMovesOnce();
        wish();
        wishWithoutRoom();
        wishesDropped();
        unwish();
        CHECK.end();
    }

    private static void due(String call, long got, long want) {
        CHECK.due(call, got, want);
    }

    private static void book() {
        CHECK.promise("promise 6");
        BoilerBook x = new BoilerBook();
        x.addRecipe(0, 10, 3, 2);
        x.addRecipe(890, 10, 1, 0);
        x.setHeat(0);
        due("book(-1, 0, 1)", x.book(-1, 0, 1), -1);
        due("book(6, 0, 0)", x.book(6, 0, 0), -1);
        due("book(0, 2, 1)", x.book(0, 2, 1), -1);
        due("book(0, -1, 0)", x.book(0, -1, 0), -1);
        due("book(0, 0, 0)", x.book(0, 0, 0), -2);
        due("book(0, 0, 61)", x.book(0, 0, 61), -2);
        due("book(0, 0, MIN)", x.book(0, 0, Integer.MIN_VALUE), -2);
        due("book(0, 0, MAX)", x.book(0, 0, Integer.MAX_VALUE), -2);
        due("history", x.count(16), 3);
        due("book(0, 0, 60)", x.book(0, 0, 60), 0);
        due("history", x.count(16), 4);
        // its time is 60 to 64
        due("book(0, 0, 56)", x.book(0, 0, 56), -6);
        due("book(0, 0, 55)", x.book(0, 0, 55), 1);
        due("book(1, 0, 60)", x.book(1, 0, 60), 2);
        due("book(5, 1, 54)", x.book(5, 1, 54), 3);
        // 900 - 10 draws before 54 leaves 890, two leave less
        due("book(4, 1, 20)", x.book(4, 1, 20), 4);
        due("book(3, 1, 54)", x.book(3, 1, 54), -7);
        due("book(3, 0, 19)", x.book(3, 0, 19), -7);
        due("busy comes first", x.book(5, 0, 54), -6);
        due("count(5)", x.count(5), 5);
        int[] told = {5, 1, 54, 0, 0};
        for (int what = 0; what < told.length; what++) {
            due("booking(3, " + what + ")", x.booking(3, what), told[what]);
        }
        x.pass(55);
        due("a booking that is done keeps busy", x.booking(3, 3), 2);
        due("book(0, 0, 59)", x.book(0, 0, 59), -6);
        x.pass(4);
        due("booking(1, 3)", x.booking(1, 3), 2);
        due("robot(0, 2) in the cooling down", x.robot(0, 2), 1);
    }

    private static void bookSixty() {
        CHECK.promise("promise 6");
        BoilerBook x = new BoilerBook();
        x.addRecipe(0, 1, 1, 0);
        for (int number = 0; number < 60; number++) {
            due("book " + number, x.book(number % 6, 0, number / 6 + 1), number);
        }
        due("the 61st", x.book(0, 0, 30), -3);
        due("the 61st for a busy robot", x.book(0, 0, 1), -3);
        due("the 61st with a bad start", x.book(0, 0, 0), -2);
        due("the 61st of nobody", x.book(6, 0, 30), -1);
        due("why does not mind", x.why(0, 0, 30, 0), 0);
        due("why", x.why(0, 0, 1, 1), 0);
        due("earliest does not mind", x.earliest(0, 0, 1), 11);
        due("recipe(0, 4)", x.recipe(0, 4), 0);
        due("robot(5, 0)", x.robot(5, 0), 10);
        due("count(6)", x.count(6), 60);
        due("addRecipe", x.addRecipe(3000, 1, 1, 0), 1);
        due("the 61st would be doomed", x.why(0, 1, 30, 0), 2);
        due("and when", x.why(0, 1, 30, 2), 30);
        due("cancel(7)", x.cancel(7), 0);
        due("cancelled ones count", x.book(1, 0, 2), -3);
        due("count(5)", x.count(5), 60);
        due("move", x.move(59, 60), 10);
        due("pass", x.pass(60), 59);
        due("count(15)", x.count(15), 59);
    }

    private static void cancel() {
        CHECK.promise("promise 7");
        BoilerBook x = new BoilerBook();
        x.addRecipe(0, 10, 3, 4);
        x.addRecipe(3000, 10, 1, 0);
        due("cancel(0)", x.cancel(0), -1);
        due("cancel(-1)", x.cancel(-1), -1);
        x.book(0, 0, 2);
        x.book(1, 0, 1);
        due("history", x.count(16), 4);
        x.pass(2);
        due("a running one", x.cancel(0), 0);
        due("draws no more", x.count(15), 30);
        due("booking(0, 4)", x.booking(0, 4), 1);
        due("robot(0, 2)", x.robot(0, 2), 0);
        due("pass(1)", x.pass(1), 1);
        due("count(15)", x.count(15), 40);
        due("a done one", x.cancel(1), -4);
        due("a cancelled one", x.cancel(0), -4);
        x.book(2, 0, 10);
        due("a booked one", x.cancel(2), 0);
        x.book(2, 0, 10);
        x.addRecipe(900, 10, 1, 0);
        due("book", x.book(3, 2, 12), 4);
        x.fall(2000);
        x.pass(9);
        due("booking(4, 3)", x.booking(4, 3), 3);
        due("a spoiled one", x.cancel(4), -4);
        due("count(9)", x.count(9), 1);
        due("count(10)", x.count(10), 2);
    }

    private static void cancelTriesEachWish() {
        CHECK.promise("promise 7");
        BoilerBook x = new BoilerBook();
        x.setHeat(0);
        x.addRecipe(0, 10, 20, 9);
        x.addRecipe(0, 10, 20, 1);
        due("book", x.book(0, 0, 1), 0);
        due("book", x.book(0, 0, 30), 1);
        due("a wish of a busy robot", x.wish(0, 1, 5), 1001);
        due("another", x.wish(0, 1, 6), 1002);
        due("a third, that fits at 30 at the latest", x.wish(0, 1, 10), 1003);
        due("count(12)", x.count(12), 3);
        due("count(13)", x.count(13), 0);
        // free from 30 on: the first wish ends at 25, the second at 26, the third begins at 30 until 50
        due("cancel(1)", x.cancel(1), 1);
        due("booking(2, 2)", x.booking(2, 2), 30);
        due("count(12)", x.count(12), 2);
        due("wishTold(1, 2)", x.wishTold(1, 2), 6);
        due("cancel(0)", x.cancel(0), 1);
        due("the first wish stood first", x.booking(3, 2), 5);
        due("count(13)", x.count(13), 2);
        due("count(12)", x.count(12), 1);
        due("count(10)", x.count(10), 2);
        due("undo", x.undo(), 3);
        due("count(13)", x.count(13), 1);
        due("count(12)", x.count(12), 2);
        due("booking(3, 2)", x.booking(3, 2), -1);
    }

    private static void move() {
        CHECK.promise("promise 8");
        BoilerBook x = new BoilerBook();
        x.addRecipe(0, 100, 2, 3);
        x.addRecipe(800, 10, 1, 0);
        x.setHeat(0);
        due("move(0, 1)", x.move(0, 1), -1);
        due("move(-1, 1)", x.move(-1, 1), -1);
        due("book", x.book(0, 0, 10), 0);
        due("book", x.book(0, 0, 20), 1);
        due("book", x.book(1, 1, 5), 2);
        due("move(0, 0)", x.move(0, 0), -2);
        due("move(0, 61)", x.move(0, 61), -2);
        due("busy by another", x.move(0, 16), -6);
        due("busy by another, behind it", x.move(1, 14), -6);
        due("not busy by itself", x.move(0, 11), 10);
        due("another would be spoiled", x.move(0, 4), -7);
        due("itself would be spoiled", x.move(2, 21), -7);
        due("history", x.count(16), 4);
        due("the lower number draws first", x.move(2, 12), -7);
        due("move(2, 11)", x.move(2, 11), 5);
        due("to its start", x.move(2, 11), -5);
        due("booking(2, 2)", x.booking(2, 2), 11);
        x.pass(11);
        due("a running one", x.move(0, 30), -4);
        due("a running one to a bad start", x.move(0, 0), -4);
        due("booked still", x.move(1, 16), 20);
        due("cancel", x.cancel(1), 0);
        due("a cancelled one", x.move(1, 30), -4);
        x.pass(1);
        due("a done one", x.move(0, 30), -4);
    }

    private static void moveToTheSameStart() {
        CHECK.promise("promise 8, NONE only if no error applies");
        BoilerBook x = new BoilerBook();
        x.addRecipe(800, 100, 1, 0);
        due("book", x.book(0, 0, 5), 0);
        due("move(0, 5)", x.move(0, 5), -5);
        x.fall(300);
        due("a doomed one does not fit", x.move(0, 5), -7);
        due("move(0, 10)", x.move(0, 10), 5);
        due("move(0, 10)", x.move(0, 10), -5);
        due("one that was doomed without it does not matter", x.count(11), 0);
        x.addRecipe(0, 1, 1, 0);
        x.fall(200);
        due("count(11)", x.count(11), 1);
        due("book beside a doomed one", x.book(1, 1, 1), 1);
    }

    private static BoilerBook fourCups() {
        BoilerBook x = new BoilerBook();
        x.setHeat(10);
        x.addRecipe(900, 40, 1, 1);
        // asked at 930, 920, 910 and 900
        for (int robot = 0; robot < 4; robot++) {
            due("book", x.book(robot, 0, 3 * robot + 3), robot);
        }
        return x;
    }

    private static void repair() {
        CHECK.promise("promise 9");
        due("of a new object", new BoilerBook().repair(), -5);
        BoilerBook x = fourCups();
        due("none is doomed", x.repair(), -5);
        // 870: asked at 900, 890, 920, 910
        due("fall(30)", x.fall(30), 1);
        due("history", x.count(16), 4);
        due("repair", x.repair(), 1);
        // each start before would doom it, or the third or the fourth
        due("booking(1, 2)", x.booking(1, 2), 15);
        due("booking(0, 2)", x.booking(0, 2), 3);
        due("count(11)", x.count(11), 0);
        due("repair again", x.repair(), -5);
        due("undo", x.undo(), 3);
        due("booking(1, 2)", x.booking(1, 2), 6);
        x = fourCups();
        due("fall(100)", x.fall(100), 3);
        due("repair", x.repair(), 3);
        int[] starts = {14, 18, 22, 12};
        for (int booking = 0; booking < 4; booking++) {
            due("booking(" + booking + ", 2)", x.booking(booking, 2), starts[booking]);
        }
    }

    private static void repairCancels() {
        CHECK.promise("promise 9, cancels");
        BoilerBook x = new BoilerBook();
        x.addRecipe(850, 40, 2, 0);
        x.addRecipe(845, 10, 1, 0);
        x.addRecipe(0, 1, 20, 9);
        due("book", x.book(0, 0, 5), 0);
        due("book", x.book(1, 1, 7), 1);
        due("a wish that the first hinders", x.wish(0, 2, 1), 2);
        due("cancel", x.cancel(2), 0);
        due("book", x.book(0, 2, 32), 3);
        due("a wish of the same robot", x.wish(0, 2, 1), 1001);
        due("setHeat(0)", x.setHeat(0), 1);
        // asked at 880 and 840, so that 840 is left for the second
        due("fall(20)", x.fall(20), 2);
        due("repair", x.repair(), 0);
        due("the first can't be moved", x.booking(0, 3), 4);
        due("the second is not doomed any more", x.booking(1, 3), 0);
        due("booking(1, 2)", x.booking(1, 2), 7);
        due("wishes are not tried", x.count(12), 1);
        due("wishes are not tried", x.count(5), 4);
        due("it was an act", x.undo(), 3);
        due("booking(0, 3)", x.booking(0, 3), 0);
        x = new BoilerBook();
        x.setHeat(0);
        x.addRecipe(800, 10, 3, 0);
        x.book(0, 0, 1);
        x.pass(1);
        due("fall(500)", x.fall(500), 1);
        due("a running one is not moved", x.repair(), -5);
        due("booking(0, 3)", x.booking(0, 3), 1);
    }

    private static void repairMovesOnce() {
        CHECK.promise("promise 9, none is moved twice");
        BoilerBook x = new BoilerBook();
        x.setHeat(200);
        x.setMost(900);
        x.addRecipe(850, 1, 1, 0);
        x.addRecipe(850, 100, 2, 0);
        x.addRecipe(850, 200, 1, 0);
        due("book", x.book(0, 0, 3), 0);
        due("book", x.book(1, 1, 1), 1);
        due("book", x.book(2, 2, 5), 2);
        due("setHeat(10)", x.setHeat(10), 3);
        // the first is moved behind the third, which is doomed then, but not without the second, that is cancelled
        due("repair", x.repair(), 1);
        due("booking(0, 2)", x.booking(0, 2), 6);
        due("booking(0, 6)", x.booking(0, 6), 6);
        due("booking(1, 3)", x.booking(1, 3), 4);
        due("booking(2, 5)", x.booking(2, 5), 2);
        due("count(11)", x.count(11), 1);
        due("repair again", x.repair(), 1);
        due("booking(0, 2)", x.booking(0, 2), 20);
        due("repair again", x.repair(), -5);
    }

    private static void wish() {
        CHECK.promise("promise 10");
        BoilerBook x = new BoilerBook();
        x.addRecipe(0, 10, 2, 0);
        x.addRecipe(3000, 10, 1, 0);
        due("wish(6, 0, 1)", x.wish(6, 0, 1), -1);
        due("wish(-1, 0, 0)", x.wish(-1, 0, 0), -1);
        due("wish(0, 2, 1)", x.wish(0, 2, 1), -1);
        due("wish(0, 0, 0)", x.wish(0, 0, 0), -2);
        due("wish(0, 0, 61)", x.wish(0, 0, 61), -2);
        due("history", x.count(16), 2);
        due("wish(0, 0, 60)", x.wish(0, 0, 60), 0);
        due("booking(0, 2)", x.booking(0, 2), 60);
        due("count(13)", x.count(13), 1);
        due("no start beyond 60 ticks", x.wish(0, 0, 59), 1001);
        due("history", x.count(16), 4);
        int[] told = {0, 0, 59, -5, -2};
        for (int what = 0; what < told.length; what++) {
            due("wishTold(0, " + what + ")", x.wishTold(0, what), told[what]);
        }
        due("wish(1, 0, 5)", x.wish(1, 0, 5), 1);
        due("wish(1, 0, 4)", x.wish(1, 0, 4), 2);
        due("the earliest start", x.booking(2, 2), 7);
        for (int wishes = 2; wishes <= 8; wishes++) {
            due("wish " + wishes, x.wish(2, 1, wishes), 1000 + wishes);
        }
        due("the ninth", x.wish(2, 1, 1), -3);
        due("the ninth with a bad start", x.wish(2, 1, 0), -2);
        due("a granted one needs no room", x.wish(3, 0, 1), 3);
        due("count(12)", x.count(12), 8);
        due("count(13)", x.count(13), 4);
        due("count(14)", x.count(14), 0);
        x.pass(1);
        due("wishTold(0, 3)", x.wishTold(0, 3), -5);
        x.pass(1);
        due("wishTold(0, 3)", x.wishTold(0, 3), 62);
        due("ticks do not try it", x.count(5), 4);
        due("wishTold(8, 0)", x.wishTold(8, 0), -1);
        due("wishTold(-1, 9)", x.wishTold(-1, 9), -1);
        due("wishTold(0, -1)", x.wishTold(0, -1), -2);
    }

    private static void wishWithoutRoom() {
        CHECK.promise("promise 10, 60 bookings");
        BoilerBook x = new BoilerBook();
        x.addRecipe(0, 1, 1, 0);
        for (int number = 0; number < 60; number++) {
            x.book(number % 6, 0, number / 6 + 1);
        }
        due("wish", x.wish(0, 0, 20), 1001);
        due("it would fit", x.wishTold(0, 3), 20);
        due("cancel", x.cancel(0), 0);
        due("count(12)", x.count(12), 1);
        due("count(5)", x.count(5), 60);
    }

    private static void wishesDropped() {
        CHECK.promise("wishes are dropped");
        BoilerBook x = new BoilerBook();
        x.addRecipe(2000, 1, 1, 0);
        x.addRecipe(2001, 1, 1, 0);
        due("wish", x.wish(0, 0, 1), 1001);
        due("wish", x.wish(1, 1, 3), 1002);
        due("wish", x.wish(2, 0, 1), 1003);
        due("wish", x.wish(3, 1, 2), 1004);
        x.pass(20);
        due("count(12)", x.count(12), 4);
        x.pass(1);
        due("count(12)", x.count(12), 2);
        due("count(14)", x.count(14), 2);
        due("wishTold(0, 0)", x.wishTold(0, 0), 1);
        due("wishTold(1, 0)", x.wishTold(1, 0), 3);
        x.pass(10);
        due("count(12)", x.count(12), 0);
        due("count(14)", x.count(14), 4);
        due("count(13)", x.count(13), 0);
        due("undo", x.undo(), 3);
        due("count(14)", x.count(14), 2);
    }

    private static void unwish() {
        CHECK.promise("promise 11");
        BoilerBook x = new BoilerBook();
        x.addRecipe(2000, 1, 1, 0);
        x.addRecipe(2001, 1, 1, 0);
        due("unwish(0)", x.unwish(0), -1);
        x.wish(0, 0, 1);
        x.wish(1, 1, 2);
        x.wish(2, 0, 3);
        due("unwish(3)", x.unwish(3), -1);
        due("unwish(-1)", x.unwish(-1), -1);
        due("unwish(1)", x.unwish(1), 1);
        due("count(12)", x.count(12), 2);
        due("count(14)", x.count(14), 0);
        due("wishTold(1, 0)", x.wishTold(1, 0), 2);
        due("wishTold(1, 1)", x.wishTold(1, 1), 0);
        due("wishTold(1, 2)", x.wishTold(1, 2), 3);
        due("unwish(0)", x.unwish(0), 0);
        due("unwish(0)", x.unwish(0), 0);
        due("unwish(0)", x.unwish(0), -1);
        due("undo", x.undo(), 3);
        due("count(12)", x.count(12), 1);
        due("wishTold(0, 0)", x.wishTold(0, 0), 2);
    }
}
