/** What the tests share: compares answers, counts wrong ones, and ends with exit code 1 if there was one. */
final class Check {
    static final int BEYOND = -1000001;
    static final int FULL = -1000002;
    static final int KIND = -1000003;
    static final int NONE = -1000004;
    static final int STATE = -1000005;
    static final int MISSING = -1000006;
    static final int SIZE = -1000007;

    /** Numbers at which a careless test of a range breaks. */
    static final int[] FAR = {Integer.MIN_VALUE, Integer.MIN_VALUE + 1, -1000001, -2, -1, 1 << 30,
        Integer.MAX_VALUE - 1, Integer.MAX_VALUE};

    private static int asked = 0;
    private static int wrong = 0;

    private Check() {
    }

    static void due(String call, long got, long want) {
        asked++;
        if (got != want) {
            wrong++;
            System.out.println(call + " answered " + got + ", due is " + want);
        }
    }

    static void finish() {
        if (wrong > 0 || asked == 0) {
            System.out.println(wrong + " of " + asked + " answers are not as due");
            System.exit(1);
        }
    }

    /** Feeds a text to the tape, four bytes at a time. */
    static void feed(SugarSaint x, String text) {
        for (int i = 0; i < text.length(); i += 4) {
            int n = Math.min(4, text.length() - i);
            int bytes = 0;
            for (int k = 0; k < n; k++) {
                bytes = bytes << 8 | text.charAt(i + k) & 255;
            }
            x.feed(bytes, n);
        }
    }

    static int text(SugarSaint x, String text) {
        feed(x, text);
        return x.text();
    }

    /** A new object with a town told by a text. */
    static SugarSaint town(String text) {
        SugarSaint x = new SugarSaint();
        int items = text(x, text);
        due("items of '" + text + "'", items, text.split(";").length);
        return x;
    }

    /** Everything that can be asked without changing anything, in one text. */
    static String portrait(SugarSaint x) {
        StringBuilder all = new StringBuilder();
        for (int what = 0; what < 10; what++) {
            all.append(" n").append(x.now(what));
        }
        for (int what = 0; what < 8; what++) {
            all.append(" c").append(x.count(what));
        }
        for (int street = 0; street < x.count(0); street++) {
            for (int what = 0; what < 7; what++) {
                all.append(" o").append(x.of(street, what));
            }
            for (int spell = 0; spell < 12; spell++) {
                all.append(" l").append(x.loss(street, spell));
            }
        }
        for (int corner = 0; corner < 8; corner++) {
            int quarter = x.quarter(corner, 0);
            x.quarter(corner, quarter);
            all.append(" q").append(quarter);
        }
        for (int spell = 0; spell < 12; spell++) {
            for (int what = 0; what < 2; what++) {
                int was = x.spell(spell, what, 0);
                x.spell(spell, what, was);
                all.append(" w").append(was);
            }
        }
        return all.toString();
    }

    static void same(String what, String got, String want) {
        due(what + (got.equals(want) ? "" : "\n  got  " + got + "\n  want " + want), got.equals(want) ? 1 : 0, 1);
    }
}
