/** What the tests share: cities made of a text, and answers held against those that are due. */
final class Due {
    private final String test;
    private int wrong = 0;
    private int asked = 0;

    Due(String test) {
        this.test = test;
    }

    void is(String call, long got, long want) {
        asked++;
        if (got != want) {
            wrong++;
            System.out.println(test + ": " + call + " answered " + got + ", due is " + want);
        }
    }

    void is(String call, String got, String want) {
        asked++;
        if (!got.equals(want)) {
            wrong++;
            System.out.println(test + ": " + call + " answered '" + got + "', due is '" + want + "'");
        }
    }

    void end() {
        System.out.println(test + ": " + asked + " answers, " + wrong + " not as due");
        if (wrong != 0) {
            System.exit(1);
        }
    }

    static DustVote written(String text) {
        DustVote x = new DustVote();
        rewrite(x, text);
        return x;
    }

    static void rewrite(DustVote x, String text) {
        x.wipe();
        for (int i = 0; i < text.length(); i++) {
            x.write(text.charAt(i));
        }
    }

    static DustVote city(String text) {
        DustVote x = written(text);
        if (x.city() < 0) {
            throw new IllegalStateException("no city: " + text);
        }
        return x;
    }

    /** All that can be seen of the object at once, so that "changes nothing" can be tested. */
    static String seen(DustVote x) {
        StringBuilder all = new StringBuilder();
        for (int what = 0; what <= 9; what++) {
            all.append(x.count(what)).append(' ');
        }
        for (int street = 0; street < 8; street++) {
            all.append(x.street(street, 0)).append(' ');
        }
        int brooms = x.count(1);
        for (int broom = 0; broom < brooms; broom++) {
            for (int what = 0; what <= 4; what++) {
                all.append(x.broom(broom, what)).append(' ');
            }
        }
        long seed = x.seed(0L);
        x.seed(seed);
        return all.append(seed).append(' ').append(x.whose(0)).append(' ').append(x.fault()).toString();
    }

    /** Dust, street by street. */
    static String dusts(DustVote x) {
        StringBuilder row = new StringBuilder();
        for (int street = 0; street < 8; street++) {
            row.append(street == 0 ? "" : " ").append(x.street(street, 0));
        }
        return row.toString();
    }

    private static String moment(DustVote x) {
        StringBuilder row = new StringBuilder(dusts(x));
        int brooms = x.count(1);
        for (int broom = 0; broom < brooms; broom++) {
            row.append(',').append(x.broom(broom, 0));
        }
        return row + " d" + x.count(3) + " v" + x.count(6) + " b" + x.count(7) + " a" + x.count(8) + '\n';
    }

    /**
     * What is hidden too: the row of acts (by undoing it), what was kept (by going on from it), the text
     * (by making it the city). The object is spent by it: it is for two that must be alike. These are some 430
     * calls, so that not many more than 80 may be made of it before: 512 is what an object is good for.
     */
    static String spent(DustVote x) {
        StringBuilder all = new StringBuilder(seen(x)).append(' ').append(x.whose(1)).append('\n');
        for (int street = 0; street < 8; street++) {
            all.append(x.dust(street, 5)).append(' ');
        }
        for (int act = 0; act <= 14; act++) {
            all.append(x.undo()).append(' ').append(moment(x));
        }
        for (int slot = 0; slot <= 1; slot++) {
            all.append(x.again(slot)).append(' ').append(moment(x));
        }
        return all.append(x.fault()).append(' ').append(x.city()).append(' ').append(seen(x)).toString();
    }
}
