/** What the tests share: cities made of a text, and answers held against those that are due. */
final class Due {
    private final String test;
    private int wrong = 0;
    private int asked = 0;

    Due(String test) {
        this.test = test;
    }

    void is(String call, long got, long want) {
        asked++;
        if (got != want) {
            wrong++;
            System.out.println(test + ": " + call + " answered " + got + ", due is " + want);
        }
    }

    void end() {
        System.out.println(test + ": " + asked + " answers, " + wrong + " not as due");
        if (wrong != 0) {
            System.exit(1);
        }
    }

    static DustVote written(String text) {
        DustVote x = new DustVote();
        rewrite(x, text);
        return x;
    }

    static void rewrite(DustVote x, String text) {
        x.wipe();
        for (int i = 0; i < text.length(); i++) {
            x.write(text.charAt(i));
        }
    }

    static DustVote city(String text) {
        DustVote x = written(text);
        if (x.city() < 0) {
            throw new IllegalStateException("no city: " + text);
        }
        return x;
    }

    /** All that can be seen of the object at once, so that "changes nothing" can be tested. */
    static String seen(DustVote x) {
        StringBuilder all = new StringBuilder();
        for (int what = 0; what <= 9; what++) {
            all.append(x.count(what)).append(' ');
        }
        for (int street = 0; street < 8; street++) {
            all.append(x.street(street, 0)).append(' ');
        }
        for (int broom = 0; broom < x.count(1); broom++) {
            for (int what = 0; what <= 4; what++) {
                all.append(x.broom(broom, what)).append(' ');
            }
        }
        long seed = x.seed(0L);
        x.seed(seed);
        return all.append(seed).append(' ').append(x.whose(0)).append(' ').append(x.fault()).toString();
    }
}
