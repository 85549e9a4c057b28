/** Promises 16 to 18: undo, and the snapshot. */
public final class HistoryTest {
    private static final Check CHECK = new Check("HistoryTest");

    public static void main(String[] args) {
        undo();
        undoOfEveryAct();
        whatIsNoAct();
        snapshot();
        CHECK.end();
    }

    private static void due(String call, long got, long want) {
        CHECK.due(call, got, want);
    }

    private static void undo() {
        CHECK.promise("promise 16");
        BoilerBook x = new BoilerBook();
        due("undo", x.undo(), -5);
        for (int heat = 1; heat <= 6; heat++) {
            due("setHeat", x.setHeat(heat), 0);
            due("history", x.count(16), Math.min(heat, 4));
        }
        for (int left = 3; left >= 0; left--) {
            due("undo", x.undo(), left);
            due("count(3)", x.count(3), left + 2);
            due("history", x.count(16), left);
        }
        due("undo", x.undo(), -5);
        due("count(3)", x.count(3), 2);
        x.setHeat(50);
        x.setHeat(60);
        due("undo", x.undo(), 1);
        x.setHeat(70);
        due("undo", x.undo(), 1);
        due("count(3)", x.count(3), 50);
        due("undo", x.undo(), 0);
        due("count(3)", x.count(3), 2);
    }

    private static BoilerBook busyBoiler() {
        BoilerBook x = new BoilerBook();
        x.addRecipe(880, 40, 3, 2);
        x.addRecipe(0, 30, 2, 1);
        x.book(0, 0, 5);
        x.book(1, 1, 3);
        x.book(2, 0, 20);
        x.book(3, 1, 4);
        x.wish(2, 0, 5);
        x.wish(2, 1, 18);
        x.addRecipe(3000, 1, 1, 1);
        x.fall(120);
        x.wish(0, 2, 1);
        x.pass(3);
        x.setMost(1400);
        return x;
    }

    private static int act(BoilerBook x, int act) {
        switch (act) {
            case 0: return x.addRecipe(1, 2, 3, 4);
            case 1: return x.setHeat(3);
            case 2: return x.setMost(200);
            case 3: return x.fall(300);
            case 4: return x.book(5, 1, 40);
            case 5: return x.cancel(2);
            case 6: return x.move(2, 30);
            case 7: return x.repair();
            case 8: return x.wish(5, 1, 10);
            case 9: return x.wish(5, 2, 10);
            case 10: return x.unwish(0);
            case 11: return x.pass(30);
            case 12: return x.bookAll();
            default: return x.restore();
        }
    }

    private static void undoOfEveryAct() {
        CHECK.promise("acts");
        for (int act = 0; act <= 13; act++) {
            BoilerBook x = busyBoiler();
            for (char c : "4:1@50,5:1@51".toCharArray()) {
                x.type(c);
            }
            x.keep();
            x.undo();
            long before = Check.trace(x);
            due("history before", x.count(16), 3);
            due("act " + act + " is no error", act(x, act) >= 0 ? 1 : 0, 1);
            due("act " + act + " is recorded", x.count(16), 4);
            due("act " + act + " changes something", Check.trace(x) != before ? 1 : 0, 1);
            due("undo of " + act, x.undo(), 3);
            due("act " + act + " is undone", Check.trace(x), before);
            due("the text stays", x.count(17), 13);
        }
    }

    private static void whatIsNoAct() {
        CHECK.promise("no acts");
        BoilerBook x = busyBoiler();
        x.undo();
        due("history", x.count(16), 3);
        long before = Check.trace(x);
        int[] answers = {x.addRecipe(-1, 1, 1, 1), x.setHeat(20), x.setHeat(301), x.setMost(1500), x.setMost(1), x.fall(0),
            x.book(9, 0, 9), x.book(0, 0, 0), x.book(0, 0, 5), x.cancel(-1), x.cancel(9), x.move(9, 9), x.move(1, 9),
            x.move(0, 0), x.wish(7, 0, 9), x.wish(0, 0, 0), x.unwish(9), x.pass(0), x.restore(), x.bookAll()};
        for (int answer : answers) {
            due("an error or NONE", answer < 0 ? 1 : 0, 1);
        }
        due("history", x.count(16), 3);
        due("nothing has changed", Check.trace(x), before);
        x.type('0');
        x.clearText();
        x.keep();
        x.pressureIn(200);
        x.lowestIn(200);
        x.why(5, 1, 30, 0);
        x.earliest(5, 1, 30);
        x.recipe(0, 4);
        x.robot(0, 3);
        due("history", x.count(16), 3);
        due("nothing has changed", Check.trace(x), before);
    }

    private static void theWholeState() {
        BoilerBook x = new BoilerBook();
        x.addRecipe(5, 6, 7, 8);
        x.addRecipe(3000, 1, 1, 0);
        x.book(3, 0, 9);
        x.wish(2, 1, 4);
        due("keep", x.keep(), 0);
        long kept = Check.trace(x);
        for (int left = 3; left >= 0; left--) {
            due("undo", x.undo(), left);
        }
        due("nothing is left", x.count(4), 0);
        x.addRecipe(1, 2, 3, 4);
        x.addRecipe(2999, 11, 12, 1);
        x.book(1, 0, 2);
        x.wish(0, 1, 3);
        due("another state", Check.trace(x) != kept ? 1 : 0, 1);
        due("restore", x.restore(), 0);
        due("every part is as it was", Check.trace(x), kept);
    }

    private static void snapshot() {
        CHECK.promise("promises 17 and 18");
        BoilerBook x = busyBoiler();
        due("restore", x.restore(), -5);
        due("history", x.count(16), 4);
        due("keep", x.keep(), 3);
        long kept = Check.trace(x);
        x.clearText();
        x.type('a');
        x.pass(40);
        x.addRecipe(1, 1, 1, 1);
        long changed = Check.trace(x);
        due("restore", x.restore(), 3);
        due("as it was kept", Check.trace(x), kept);
        due("the text stays", x.count(17), 1);
        due("the history stays", x.count(16), 4);
        due("undo", x.undo(), 3);
        due("as before the restoring", Check.trace(x), changed);
        due("the snapshot stays", x.restore(), 3);
        due("as it was kept", Check.trace(x), kept);
        x.pass(1);
        due("keep", x.keep(), 4);
        x.pass(10);
        due("in place of the one that was", x.restore(), 4);
        due("twice", x.restore(), 4);
        due("count(0)", x.count(0), 4);
        x.undo();
        x.undo();
        x.undo();
        x.undo();
        due("undo leaves the snapshot", x.restore(), 4);
        theWholeState();
        BoilerBook y = new BoilerBook();
        due("a snapshot of a new object", y.keep(), 0);
        y.pass(9);
        due("restore", y.restore(), 0);
        due("count(1)", y.count(1), 900);
    }
}
