/** Promises 31 to 34: weather, strays, years, seeds. */
public final class WeatherTest {

    public static void main(String[] args) {
        skies();
        strays();
        straysThatEnd();
        years();
        seeds();
        Check.finish();
    }

    private static int step(int z) {
        return z * 1103515245 + 12345;
    }

    private static void skies() {
        for (int seed : new int[] {1, 5, -7, Integer.MIN_VALUE, 123456789}) {
            SugarSaint x = new SugarSaint();
            x.seed(seed);
            int[] sun = new int[12];
            int[] rain = new int[12];
            java.util.Arrays.fill(sun, 3);
            int z = seed;
            for (int i = 0; i < 12; i++) {
                z = step(z);
                int spell = (z >>> 8) % 12;
                z = step(z);
                sun[spell] = (z >>> 8) % 10;
                z = step(z);
                rain[spell] = Math.max(0, (z >>> 8) % 10 - 5);
            }
            int all = 0;
            for (int r : rain) {
                all += r;
            }
            Check.due("seed " + seed + ": sky(12)", x.sky(12), all);
            Check.due("rain of all", x.count(4), all);
            Check.due("z", x.count(6), z);
            for (int i = 0; i < 12; i++) {
                Check.due("seed " + seed + ": sun of " + i, x.spell(i, 0, 0), sun[i]);
                Check.due("seed " + seed + ": rain of " + i, x.spell(i, 1, 0), rain[i]);
            }
        }
        SugarSaint x = new SugarSaint();
        x.sky(1);
        Check.due("three draws a time", x.count(6), step(step(step(1))));
        Check.due("sky(0)", x.sky(0), Check.BEYOND);
        Check.due("sky(13)", x.sky(13), Check.BEYOND);
        for (int far : Check.FAR) {
            Check.due("sky(" + far + ")", x.sky(far), Check.BEYOND);
        }
        Check.due("no draw for those", x.count(6), step(step(step(1))));
        SugarSaint y = new SugarSaint();
        y.spell(0, 1, 9);
        y.seed(1);
        // draws of 1: 1103527590 >>> 8 = 4310654, of which the rest by 12 is 2
        int answer = y.sky(1);
        Check.due("rain that was there counts, too", answer, y.count(4));
        Check.due("at least that of spell 0", answer >= 9 ? 1 : 0, 1);
    }

    private static void strays() {
        SugarSaint x = Check.town("street 0 3 long 1;street 0 1 long 1;street 0 6 long 1;street 3 1 long 1");
        x.seed(42);
        int[][] near = {{1, 3, 6}, {0, 3}, {}, {0, 1}, {}, {}, {0}, {}};
        int z = 42;
        int corner = 0;
        int seen = 0;
        for (int i = 0; i < 12; i++) {
            z = step(z);
            corner = near[corner][(z >>> 8) % near[corner].length];
            seen |= 1 << corner % 4;
        }
        Check.due("stray(12)", x.stray(12), 1000 - 72);
        Check.due("corner", x.now(6), corner);
        Check.due("minute", x.now(7), 12);
        Check.due("seen", x.now(8), seen);
        Check.due("molten", x.now(9), 72);
        Check.due("one draw a step", x.count(6), z);
        Check.due("stray(0)", x.stray(0), Check.BEYOND);
        Check.due("stray(13)", x.stray(13), Check.BEYOND);
        for (int far : Check.FAR) {
            Check.due("stray(" + far + ")", x.stray(far), Check.BEYOND);
        }
        Check.due("no draw for those", x.count(6), z);
        Check.due("stray(1)", x.stray(1), 1000 - 78);
        Check.due("one draw", x.count(6), step(z));
    }

    private static void straysThatEnd() {
        SugarSaint alone = Check.town("street 1 2");
        Check.due("no corner next to hers", alone.stray(12), 1000);
        Check.due("no draw", alone.count(6), 1);
        SugarSaint late = Check.town("street 0 1 long 20");
        for (int i = 0; i < 16; i++) {
            late.wait(60);
        }
        late.wait(19);
        Check.due("one step ends at 999", late.stray(12), 1000 - 120);
        Check.due("minute", late.now(7), 999);
        Check.due("corner", late.now(6), 1);
        Check.due("a draw for the step, and one ahead of the end", late.count(6), step(step(1)));
        Check.due("and one again", late.stray(5), 880);
        Check.due("draws", late.count(6), step(step(step(1))));
        Check.due("no finding", late.status(-1), 0);
    }

    private static void years() {
        SugarSaint x = Check.town("street 0 1 long 20");
        x.carry(1);
        // 880 are left
        Check.due("year()", x.year(), 880);
        int[] due = {88, 176, 176, 440, 880, 0, 0, 0, 0, 120};
        for (int what = 0; what < due.length; what++) {
            Check.due("now(" + what + ")", x.now(what), due[what]);
        }
        x.grains(0, 9);
        x.grains(1, 0);
        x.grains(2, 0);
        x.grains(3, 0);
        Check.due("year() of nine", x.year(), 9);
        Check.due("a tenth, cut", x.now(0), 0);
        Check.due("two tenths, cut", x.now(1), 1);
        Check.due("two tenths, cut", x.now(2), 1);
        Check.due("the others", x.now(3), 7);
        for (int part = 0; part < 4; part++) {
            x.grains(part, 9999);
        }
        Check.due("year() of all there can be", x.year(), 39996);
        Check.due("halo", x.now(0), 3999);
        Check.due("arms", x.now(1), 7999);
        Check.due("body", x.now(3), 19999);
        Check.due("grains(3, 0)", x.grains(3, 0), 19999);
        for (int part = 0; part < 4; part++) {
            x.grains(part, 0);
        }
        Check.due("year() of nothing", x.year(), 0);
    }

    private static void seeds() {
        SugarSaint x = new SugarSaint();
        Check.due("seed(-1000001)", x.seed(-1000001), 1);
        Check.due("z may look like a finding", x.count(6), -1000001);
        Check.due("seed(MIN)", x.seed(Integer.MIN_VALUE), -1000001);
        Check.due("seed(0)", x.seed(0), Integer.MIN_VALUE);
        Check.due("it is none", x.status(-1), 0);
        Check.due("seed(3)", x.seed(3), 0);
    }
}
