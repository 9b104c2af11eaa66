/** Promises 38 to 44: spots and sheets. */
public final class SheetsTest {

    public static void main(String[] args) {
        holding();
        kindsOfSpots();
        sheets();
        writing();
        copying();
        copyingOntoItself();
        loading();
        judging();
        judgingLate();
        Check.finish();
    }

    private static void holding() {
        SugarSaint x = Check.town("street 0 1;ants 1 2");
        Check.due("hold(0, 1)", x.hold(0, 1), 1);
        Check.due("hold(9, 1)", x.hold(9, 1), 1);
        Check.due("hold(9, 0)", x.hold(9, 0), 1);
        Check.due("count(7)", x.count(7), 2);
        Check.due("as(9, 0)", x.as(9, 0), 0);
        Check.due("hold(0, -1)", x.hold(0, -1), 1);
        Check.due("count(7)", x.count(7), 1);
        Check.due("as(0, 0)", x.as(0, 0), Check.MISSING);
        Check.due("hold(3, -1): nothing instead of nothing", x.hold(3, -1), 1);
        Check.due("hold(10, 0)", x.hold(10, 0), Check.BEYOND);
        Check.due("hold(0, 2)", x.hold(0, 2), Check.BEYOND);
        Check.due("hold(0, -2)", x.hold(0, -2), Check.BEYOND);
        for (int far : Check.FAR) {
            Check.due("hold(" + far + ", 0)", x.hold(far, 0), Check.BEYOND);
            if (far != -1) {
                Check.due("hold(0, " + far + ")", x.hold(0, far), Check.BEYOND);
            }
        }
        Check.due("count(7)", x.count(7), 1);
    }

    private static void kindsOfSpots() {
        SugarSaint x = new SugarSaint();
        int[] above = {1, 3, 5, 1 | 2 | 8, 1 | 4 | 16, 1 | 32, 1 | 32 | 64};
        for (int kind = 0; kind < 7; kind++) {
            x.street(kind, 0, 1, 1);
            x.hold(kind, kind);
            for (int as = 0; as < 7; as++) {
                boolean is = (above[kind] >> as & 1) == 1;
                Check.due("as(" + kind + ", " + as + ")", x.as(kind, as), is ? kind : Check.KIND);
            }
        }
        x.change(6, 0, 3);
        Check.due("a spot holds the street, not what it was", x.as(6, 1), 6);
        Check.due("as(9, 0)", x.as(9, 0), Check.MISSING);
        Check.due("as(10, 0)", x.as(10, 0), Check.BEYOND);
        Check.due("as(0, 7)", x.as(0, 7), Check.BEYOND);
        Check.due("BEYOND is asked ahead of MISSING", x.as(9, 7), Check.BEYOND);
        for (int far : Check.FAR) {
            Check.due("as(" + far + ", 0)", x.as(far, 0), Check.BEYOND);
            Check.due("as(0, " + far + ")", x.as(0, far), Check.BEYOND);
        }
    }

    private static void sheets() {
        SugarSaint x = new SugarSaint();
        for (int bits : new int[] {8, 16, 32}) {
            Check.due("sheet(0, " + bits + ", 40)", x.sheet(0, bits, 40), 40);
            Check.due("sheet(3, " + bits + ", 0)", x.sheet(3, bits, 0), 0);
            Check.due("a sheet of no numbers is there", x.judge(3), 1000);
        }
        x.sheet(0, 8, 2);
        x.write(0, 0, 7);
        x.write(0, 1, 7);
        Check.due("sheet(0, 8, 3)", x.sheet(0, 8, 3), 3);
        Check.due("all 0 again", x.load(0), 3);
        Check.due("sun", x.count(3), 27);
        Check.due("sheet(0, 0, 5): it is missing", x.sheet(0, 0, 5), 0);
        Check.due("load(0)", x.load(0), Check.MISSING);
        int[] bits = {-8, 1, 7, 9, 24, 31, 33, 64};
        for (int b : bits) {
            Check.due("sheet(3, " + b + ", 1)", x.sheet(3, b, 1), Check.BEYOND);
            Check.due("other bits are asked ahead of SIZE", x.sheet(3, b, -1), Check.BEYOND);
        }
        Check.due("sheet(4, 8, 1)", x.sheet(4, 8, 1), Check.BEYOND);
        Check.due("sheet(4, 8, -1)", x.sheet(4, 8, -1), Check.BEYOND);
        Check.due("sheet(3, 8, -1)", x.sheet(3, 8, -1), Check.SIZE);
        Check.due("sheet(3, 0, -1)", x.sheet(3, 0, -1), Check.SIZE);
        Check.due("sheet(3, 8, 41)", x.sheet(3, 8, 41), Check.BEYOND);
        Check.due("sheet(3, 0, 41)", x.sheet(3, 0, 41), Check.BEYOND);
        Check.due("sheet(3, 8, MIN)", x.sheet(3, 8, Integer.MIN_VALUE), Check.SIZE);
        Check.due("sheet(3, 8, MAX)", x.sheet(3, 8, Integer.MAX_VALUE), Check.BEYOND);
        Check.due("sheet 3 is as it was", x.judge(3), 1000);
        for (int far : Check.FAR) {
            Check.due("sheet(" + far + ", 8, 1)", x.sheet(far, 8, 1), Check.BEYOND);
            Check.due("sheet(0, " + far + ", 1)", x.sheet(0, far, 1), Check.BEYOND);
        }
        Check.due("sheet(3, 0, 40)", x.sheet(3, 0, 40), 0);
        Check.due("judge(3)", x.judge(3), Check.MISSING);
    }

    /** The numbers that load() takes from a sheet, told as one number of digits. */
    private static long loaded(SugarSaint x, int s, int n) {
        for (int i = 0; i < 12; i++) {
            x.spell(i, 0, 0);
        }
        Check.due("load(" + s + ")", x.load(s), n);
        long all = 0;
        for (int i = 0; i < n; i++) {
            all = all * 10 + x.spell(i, 0, 0);
        }
        return all;
    }

    private static void writing() {
        SugarSaint x = new SugarSaint();
        Check.due("write to a missing one", x.write(0, 0, 1), Check.MISSING);
        Check.due("MISSING is asked ahead of BEYOND: no such number", x.write(0, 99, 1), Check.MISSING);
        int[] bits = {8, 16, 32};
        int[] wraps = {256 + 5, 65536 + 5, 5};
        for (int k = 0; k < 3; k++) {
            x.sheet(k, bits[k], 3);
            Check.due("write", x.write(k, 0, wraps[k]), 1);
            Check.due("write", x.write(k, 1, 9), 1);
            Check.due("write", x.write(k, 2, -1), 1);
            Check.due("lowest bits of " + bits[k], loaded(x, k, 2), 59);
        }
        x.sheet(0, 8, 1);
        x.write(0, 0, 128);
        Check.due("128 of 8 bits is below 0", x.load(0), 0);
        x.write(0, 0, -256);
        Check.due("-256 of 8 bits is 0", x.load(0), 1);
        x.sheet(1, 16, 1);
        x.write(1, 0, 256 + 5);
        Check.due("261 of 16 bits is 261", x.load(1), 0);
        x.write(1, 0, Integer.MIN_VALUE + 3);
        Check.due("MIN + 3 of 16 bits is 3", loaded(x, 1, 1), 3);
        x.sheet(2, 32, 1);
        x.write(2, 0, 65536 + 5);
        Check.due("65541 of 32 bits is itself", x.load(2), 0);
        Check.due("write(0, 1, 1)", x.write(0, 1, 1), Check.BEYOND);
        Check.due("write(4, 0, 1)", x.write(4, 0, 1), Check.BEYOND);
        for (int far : Check.FAR) {
            Check.due("write(" + far + ", 0, 1)", x.write(far, 0, 1), Check.BEYOND);
            Check.due("write(0, " + far + ", 1)", x.write(0, far, 1), Check.BEYOND);
        }
        x.sheet(0, 8, 0);
        Check.due("no numbers at all", x.write(0, 0, 1), Check.BEYOND);
    }

    private static void fill(SugarSaint x, int s, int bits, int... numbers) {
        x.sheet(s, bits, numbers.length);
        for (int i = 0; i < numbers.length; i++) {
            x.write(s, i, numbers[i]);
        }
    }

    private static void copying() {
        SugarSaint x = new SugarSaint();
        Check.due("both missing", x.copy(0, 0, 1, 0, 0), Check.MISSING);
        fill(x, 0, 8, 1, 2, 3, 4, 5);
        Check.due("one missing", x.copy(0, 0, 1, 0, 0), Check.MISSING);
        Check.due("the other missing", x.copy(1, 0, 0, 0, 0), Check.MISSING);
        Check.due("BEYOND is asked ahead of MISSING", x.copy(1, 0, 4, 0, 0), Check.BEYOND);
        Check.due("MISSING is asked ahead of the numbers", x.copy(0, -1, 1, 0, 0), Check.MISSING);
        fill(x, 1, 8, 9, 9, 9);
        fill(x, 2, 16, 9, 9, 9);
        Check.due("copy(0, 2, 1, 0, 2)", x.copy(0, 2, 1, 0, 2), 2);
        Check.due("what came", loaded(x, 1, 3), 349);
        Check.due("what stays", loaded(x, 0, 5), 12345);
        Check.due("the whole", x.copy(1, 0, 0, 2, 3), 3);
        Check.due("what came", loaded(x, 0, 5), 12349);
        Check.due("other bits", x.copy(0, 0, 2, 0, 1), Check.KIND);
        Check.due("KIND is asked ahead of the numbers", x.copy(0, 9, 2, 0, 1), Check.KIND);
        Check.due("none, at the end", x.copy(0, 5, 1, 3, 0), 0);
        int[][] wrong = {{6, 0, 0}, {0, 4, 0}, {0, 0, 4}, {3, 0, 3}, {0, 1, 3}, {-1, 0, 1}, {0, -1, 1}, {0, 0, -1},
            {-1, 0, 0}, {5, 0, 1}, {0, 3, 1}};
        for (int[] w : wrong) {
            Check.due("copy(0, " + w[0] + ", 1, " + w[1] + ", " + w[2] + ")", x.copy(0, w[0], 1, w[1], w[2]),
                    Check.BEYOND);
        }
        for (int far : Check.FAR) {
            Check.due("copy(" + far + ", ..)", x.copy(far, 0, 1, 0, 1), Check.BEYOND);
            Check.due("copy(0, 0, " + far + ", ..)", x.copy(0, 0, far, 0, 1), Check.BEYOND);
            Check.due("from " + far, x.copy(0, far, 1, 0, 1), Check.BEYOND);
            Check.due("to " + far, x.copy(0, 0, 1, far, 1), Check.BEYOND);
            Check.due("n " + far, x.copy(0, 0, 1, 0, far), Check.BEYOND);
            Check.due("all " + far, x.copy(0, far, 1, far, far), Check.BEYOND);
        }
        Check.due("nothing came of those", loaded(x, 1, 3), 349);
    }

    private static void copyingOntoItself() {
        SugarSaint x = new SugarSaint();
        fill(x, 0, 32, 1, 2, 3, 4, 5);
        Check.due("forth", x.copy(0, 0, 0, 1, 4), 4);
        Check.due("as they all were", loaded(x, 0, 5), 11234);
        Check.due("back", x.copy(0, 2, 0, 0, 3), 3);
        Check.due("as they all were", loaded(x, 0, 5), 23434);
    }

    private static void loading() {
        SugarSaint x = new SugarSaint();
        fill(x, 0, 16, 9, 0, 5, 10, 4);
        Check.due("it ends at 10", x.load(0), 3);
        Check.due("sun", x.count(3), 14 + 9 * 3);
        fill(x, 0, 8, -1, 4);
        Check.due("it ends at -1", x.load(0), 0);
        x.sheet(1, 8, 40);
        Check.due("twelve spells", x.load(1), 12);
        Check.due("sun", x.count(3), 0);
        x.sheet(1, 8, 0);
        Check.due("none", x.load(1), 0);
        Check.due("load(2)", x.load(2), Check.MISSING);
        Check.due("load(4)", x.load(4), Check.BEYOND);
        for (int far : Check.FAR) {
            Check.due("load(" + far + ")", x.load(far), Check.BEYOND);
        }
        Check.due("rain stays", x.count(4), 0);
    }

    private static void judging() {
        SugarSaint x = Check.town("street 0 1 long 10;shaded 1 2 long 10;chapel 2 0;spell 1 sun 9");
        fill(x, 0, 8, 1, 2, 1, 0);
        String before = Check.portrait(x);
        // ten minutes of 6, ten of 3, ten of 9, ten of 18
        Check.due("judge(0)", x.judge(0), 1000 - 360);
        Check.same("nothing changes", Check.portrait(x), before);
        x.wait(20);
        x.made(1);
        Check.due("from where, when and what she is", x.judge(0), 1000 - 90 - 40 - 10 - 30);
        x.made(0);
        fill(x, 1, 16, 1, 3);
        Check.due("no street to 3", x.judge(1), Check.NONE);
        fill(x, 1, 16, 1, 1);
        Check.due("no street to where she is", x.judge(1), Check.NONE);
        fill(x, 1, 32, 0);
        Check.due("nor at first", x.judge(1), Check.NONE);
        for (int far : Check.FAR) {
            fill(x, 1, 32, 1, far);
            Check.due("no corner " + far, x.judge(1), Check.NONE);
            Check.due("judge(" + far + ")", x.judge(far), Check.BEYOND);
        }
        fill(x, 1, 8, 8);
        Check.due("no corner 8", x.judge(1), Check.NONE);
        x.sheet(1, 8, 0);
        Check.due("nowhere", x.judge(1), 1000);
        Check.due("judge(2)", x.judge(2), Check.MISSING);
        Check.due("judge(4)", x.judge(4), Check.BEYOND);
        for (int part = 0; part < 4; part++) {
            x.grains(part, 3);
        }
        Check.due("no more melts than there is", x.judge(0), 0);
    }

    private static void judgingLate() {
        SugarSaint x = Check.town("steep 0 1 long 20;street 0 2 long 9;spell 11 sun 0");
        fill(x, 0, 8, 1, 0, 2, 5);
        Check.due("no street to 5", x.judge(0), Check.NONE);
        for (int i = 0; i < 15; i++) {
            x.wait(60);
        }
        x.wait(30);
        Check.due("at 930: 960, 990, 999, and no street", x.judge(0), Check.NONE);
        x.wait(1);
        Check.due("at 931: 961, 991, 1000 comes first", x.judge(0), Check.STATE);
        fill(x, 0, 8, 1, 0);
        Check.due("till 991", x.judge(0), 1000);
        x.wait(8);
        Check.due("till 999", x.judge(0), 1000);
        x.wait(1);
        Check.due("till 1000", x.judge(0), Check.STATE);
        fill(x, 0, 8, 3, 1);
        Check.due("no street comes first", x.judge(0), Check.NONE);
    }
}
