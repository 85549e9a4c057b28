/** Counts answers that are not the ones that are due. */
final class Check {
    private final String test;
    private int asked = 0;
    private int wrong = 0;
    private String promise = "";

    Check(String test) {
        this.test = test;
    }

    void promise(String name) {
        promise = name;
    }

    void due(String call, long got, long want) {
        asked++;
        if (got != want) {
            wrong++;
            System.out.println(test + ", " + promise + ": " + call + " answered " + got + ", due is " + want);
        }
    }

    void end() {
        System.out.println(test + ": " + asked + " asked, " + wrong + " wrong");
        if (wrong != 0) {
            System.exit(1);
        }
    }

    /** All that count() tells but the states in the history and the length of the text, in one number. */
    static long trace(BoilerBook x) {
        long trace = 17;
        for (int what = 0; what <= 15; what++) {
            trace = trace * 31 + x.count(what);
        }
        for (int booking = 0; booking < x.count(5); booking++) {
            for (int what = 0; what <= 7; what++) {
                trace = trace * 31 + x.booking(booking, what);
            }
        }
        for (int place = 0; place < x.count(12); place++) {
            for (int what = 0; what <= 3; what++) {
                trace = trace * 31 + x.wishTold(place, what);
            }
        }
        for (int recipe = 0; recipe < x.count(4); recipe++) {
            for (int what = 0; what <= 4; what++) {
                trace = trace * 31 + x.recipe(recipe, what);
            }
        }
        return trace;
    }
}
