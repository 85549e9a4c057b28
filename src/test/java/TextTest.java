/** Promises 13 to 15: the text, and the bookings that it tells. */
public final class TextTest {
    private static final Check CHECK = new Check("TextTest");

    public static void main(String[] args) {
        type();
        faults();
        bookAll();
        allOrNone();
        errorsInTheirOrder();
        CHECK.end();
    }

    private static void due(String call, long got, long want) {
        CHECK.due(call, got, want);
    }

    private static void put(BoilerBook x, String text) {
        x.clearText();
        for (int i = 0; i < text.length(); i++) {
            due("type " + text.charAt(i), x.type(text.charAt(i)), i + 1);
        }
    }

    private static void type() {
        CHECK.promise("promises 13 and 14");
        BoilerBook x = new BoilerBook();
        due("clearText()", x.clearText(), 0);
        char[] odd = {0, 1, 127, 128, 255, 256, 65535, ' ', ','};
        for (int i = 0; i < 60; i++) {
            due("type " + i, x.type(odd[i % odd.length]), i + 1);
        }
        due("the 61st", x.type('0'), -3);
        due("count(17)", x.count(17), 60);
        due("history", x.count(16), 0);
        due("clearText()", x.clearText(), 60);
        due("count(17)", x.count(17), 0);
        due("type", x.type('0'), 1);
        due("bookAll", x.bookAll(), -101);
    }

    private static void faults() {
        CHECK.promise("promise 15, faults");
        BoilerBook x = new BoilerBook();
        x.addRecipe(0, 1, 1, 0);
        String[] texts = {"", "x", ":", "0", "0x", "0:", "0:x", "0:0", "0:0:", "0:0@", "0:0@x", "0:0@-1", "0:0@1 ",
            "0:0@12345", "0:0@01", "0:0@00", "0:0@1,", "0:0@1,,", "0:0@1,1", "0:0@1,1:0@", " 0:0@1", "00:0@1", "0:00@1",
            "0:0@1;0:0@2", "0:0@1,0:0@2,0:0@3x", "0:0@1,0:0@2,0:0@9999,1:0@12345", "0:0@" + (char) 0, "/:0@1", "0:/@1",
            "0:0@/", "0:0@1:", "0:0@1/", "0:0@" + (char) 0x661};
        int[] faults = {0, 0, 0, 1, 1, 2, 2, 3, 3, 4, 4, 4, 5,
            8, 5, 5, 6, 6, 7, 10, 0, 1, 3,
            5, 17, 29, 4, 0, 2,
            4, 5, 5, 4};
        due("as many", faults.length, texts.length);
        for (int i = 0; i < texts.length; i++) {
            put(x, texts[i]);
            due("bookAll of '" + texts[i] + "'", x.bookAll(), -100 - faults[i]);
        }
        String ten = "0:0@1,0:0@2,0:0@3,0:0@4,0:0@5,0:0@6,0:0@7,0:0@8,0:0@9,1:0@1";
        put(x, ten + ",");
        due("a comma as the 60th", x.bookAll(), -160);
        due("history", x.count(16), 1);
        due("count(5)", x.count(5), 0);
        put(x, ten);
        due("ten bookings", x.bookAll(), 10);
        due("count(5)", x.count(5), 10);
        due("history", x.count(16), 2);
    }

    private static void bookAll() {
        CHECK.promise("promise 15");
        BoilerBook x = new BoilerBook();
        x.addRecipe(0, 1, 1, 0);
        x.addRecipe(0, 2, 1, 0);
        put(x, "3:1@17,5:0@9,3:0@18");
        due("bookAll", x.bookAll(), 3);
        due("the text stays", x.count(17), 19);
        int[][] told = {{3, 1, 17, 0, 0}, {5, 0, 9, 0, 0}, {3, 0, 18, 0, 0}};
        for (int booking = 0; booking < 3; booking++) {
            for (int what = 0; what < 5; what++) {
                due("booking(" + booking + ", " + what + ")", x.booking(booking, what), told[booking][what]);
            }
        }
        due("history", x.count(16), 3);
        due("again", x.bookAll(), -6);
        due("history", x.count(16), 3);
        due("undo", x.undo(), 2);
        due("all of them are undone", x.count(5), 0);
        due("the text stays", x.count(17), 19);
        for (int hundreds = 0; hundreds < 5; hundreds++) {
            x.pass(200);
        }
        put(x, "0:0@1001,1:0@1060");
        due("starts of four digits", x.bookAll(), 2);
        due("booking(1, 2)", x.booking(1, 2), 1060);
    }

    private static void allOrNone() {
        CHECK.promise("promise 15, all or none");
        BoilerBook x = new BoilerBook();
        x.addRecipe(0, 10, 1, 0);
        x.addRecipe(890, 10, 1, 0);
        x.setHeat(0);
        x.book(5, 0, 60);
        long before = Check.trace(x);
        put(x, "0:1@5,1:0@4,2:0@3");
        due("the third dooms the first", x.bookAll(), -7);
        due("nothing has changed", Check.trace(x), before);
        due("history", x.count(16), 4);
        put(x, "0:0@5,0:0@5");
        due("busy by the first", x.bookAll(), -6);
        due("nothing has changed", Check.trace(x), before);
        put(x, "0:0@5,0:9@5");
        due("an unknown recipe", x.bookAll(), -1);
        put(x, "0:0@5,6:0@5");
        due("an unknown robot", x.bookAll(), -1);
        put(x, "0:0@5,1:0@61");
        due("a start too late", x.bookAll(), -2);
        put(x, "0:0@5,1:0@0");
        due("a start in the past", x.bookAll(), -2);
        due("nothing has changed", Check.trace(x), before);
        due("undo", x.undo(), 3);
        due("the undone act was the booking", x.count(5), 0);
    }

    private static void errorsInTheirOrder() {
        CHECK.promise("promise 15, the first of them");
        BoilerBook x = new BoilerBook();
        x.addRecipe(0, 1, 1, 0);
        for (int number = 0; number < 59; number++) {
            x.book(number % 6, 0, number / 6 + 1);
        }
        long before = Check.trace(x);
        put(x, "0:0@30,9:0@1");
        due("UNKNOWN comes ahead of FULL", x.bookAll(), -1);
        put(x, "0:0@30,0:0@31");
        due("the 61st", x.bookAll(), -3);
        put(x, "0:0@30,0:0@30");
        due("FULL comes ahead of BUSY", x.bookAll(), -3);
        put(x, "0:0@1,9:0@30");
        due("the first booking tells the error", x.bookAll(), -6);
        put(x, "0:0@1,9:0@30,");
        due("the fault comes first", x.bookAll(), -113);
        due("nothing has changed", Check.trace(x), before);
        put(x, "0:0@30");
        due("the 60th", x.bookAll(), 1);
    }
}
