/** Promises 45 to 49: images, counts, status. */
public final class ImagesTest {

    public static void main(String[] args) {
        keeping();
        whatIsNotKept();
        tearing();
        counting();
        statuses();
        Check.finish();
    }

    private static void keeping() {
        SugarSaint x = Check.town("street 0 1 long 3;ants 1 2 long 4 umbrella;spell 3 sun 7 rain 2;quarter 5 3");
        x.hold(2, 1);
        x.seed(77);
        x.carry(1);
        x.made(1);
        x.grains(3, 321);
        x.wait(5);
        String before = Check.portrait(x);
        Check.due("image()", x.image(), 1);
        Check.same("it changes nothing", Check.portrait(x), before);
        changeAll(x);
        Check.due("undo(): minute", x.undo(), 8);
        Check.same("all is as it was kept", Check.portrait(x), before);
        Check.due("spot 2", x.as(2, 6), 1);
        Check.due("spot 0", x.as(0, 0), Check.MISSING);
        changeAll(x);
        x.street(0, 3, 4, 5);
        Check.due("it stays", x.undo(), 8);
        Check.same("all is as it was kept", Check.portrait(x), before);
        Check.due("of the street that is gone", x.of(2, 0), Check.BEYOND);
        Check.due("a new one in its place", x.street(5, 6, 7, 8), 2);
        Check.due("of it", x.of(2, 4), 0);
        x.image();
        x.day();
        x.image();
        x.wait(9);
        Check.due("the latest", x.undo(), 0);
        Check.due("streets", x.count(0), 3);
    }

    private static void changeAll(SugarSaint x) {
        x.change(0, 0, 4);
        x.change(0, 3, 20);
        x.change(1, 4, 0);
        x.street(6, 6, 7, 9);
        x.change(2, 4, 1);
        x.quarter(5, 0);
        x.quarter(0, 3);
        x.sky(12);
        x.stray(3);
        x.made(0);
        x.year();
        x.hold(2, 0);
        x.hold(0, 0);
        x.hold(9, 2);
        x.grains(0, 1);
    }

    private static void whatIsNotKept() {
        SugarSaint x = new SugarSaint();
        Check.feed(x, "sal");
        x.sheet(0, 8, 2);
        x.write(0, 0, 7);
        x.image();
        x.write(0, 0, 4);
        x.sheet(1, 16, 5);
        Check.feed(x, "t");
        x.now(99);
        Check.due("undo()", x.undo(), 0);
        Check.due("the tape is as it is", x.count(5), 4);
        Check.due("sheet 1 is there", x.judge(1) == Check.MISSING ? 0 : 1, 1);
        Check.due("sheet 0 is as it is", x.load(0), 2);
        Check.due("sun", x.spell(0, 0, 3), 4);
        Check.due("status goes on", x.status(0), 1);
        Check.due("salt", x.text(), 1);
        Check.due("undo()", x.undo(), 0);
        Check.due("of sugar", x.now(5), 0);
        Check.due("the tape is empty", x.count(5), 0);
    }

    private static void tearing() {
        SugarSaint x = new SugarSaint();
        Check.due("undo() of nothing", x.undo(), Check.NONE);
        Check.due("tear() of nothing", x.tear(), 0);
        x.image();
        x.image();
        Check.due("tear()", x.tear(), 1);
        Check.due("all are gone", x.tear(), 0);
        x.wait(7);
        Check.due("undo()", x.undo(), Check.NONE);
        Check.due("nothing changed", x.now(7), 7);
        x.image();
        Check.due("undo()", x.undo(), 7);
    }

    private static void counting() {
        SugarSaint x = Check.town("steep 0 1 long 5 umbrella;crowded 1 2 long 5;chapel 2 3 umbrella;spell 3 sun 9 rain 4");
        x.hold(4, 0);
        x.hold(5, 0);
        x.feed(0, 3);
        x.seed(-5);
        int[] due = {3, 7 + 7 + 5, 2, 42, 4, 3, -5, 2};
        for (int what = 0; what < due.length; what++) {
            Check.due("count(" + what + ")", x.count(what), due[what]);
        }
        Check.due("count(8)", x.count(8), Check.BEYOND);
        for (int far : Check.FAR) {
            Check.due("count(" + far + ")", x.count(far), Check.BEYOND);
        }
    }

    private static void statuses() {
        SugarSaint x = Check.town("street 0 1");
        x.hold(0, 0);
        x.sheet(0, 8, 1);
        for (int i = 1; i < 14; i++) {
            x.street(0, 0, 1, 1);
        }
        for (int i = 0; i < 16; i++) {
            x.wait(60);
        }
        x.now(-1);
        x.street(0, 0, 1, 1);
        x.street(0, 0, 1, 1);
        times(3, x, 2);
        times(4, x, 3);
        times(5, x, 4);
        times(6, x, 5);
        times(7, x, 6);
        for (int which = 0; which < 7; which++) {
            Check.due("status(" + which + ")", x.status(which), which + 1);
        }
        Check.due("status(-1)", x.status(-1), 28);
        Check.due("status(7)", x.status(7), Check.BEYOND);
        Check.due("counted from then on", x.status(0), 2);
        Check.due("status(-2)", x.status(-2), Check.BEYOND);
        Check.due("all", x.status(-1), 30);
        x.seed(-1000004);
        x.count(6);
        x.seed(-1000001);
        Check.due("z is no finding", x.status(-1), 30);
        x.text();
        Check.due("a fault is no finding", x.status(-1), 30);
        x.image();
        x.now(10);
        x.undo();
        x.year();
        x.day();
        x.tear();
        Check.due("undo() takes none back", x.status(-1), 31);
        for (int far : Check.FAR) {
            if (far != -1) {
                Check.due("status(" + far + ")", x.status(far), Check.BEYOND);
            }
        }
    }

    /** So many acts that answer a finding of one kind. */
    private static void times(int n, SugarSaint x, int which) {
        for (int i = 0; i < n; i++) {
            int got = which == 2 ? x.as(0, 3) : which == 3 ? x.carry(7) : which == 4 ? x.wait(60)
                    : which == 5 ? x.load(3) : x.sheet(0, 8, -1);
            Check.due("finding " + which, got, -1000001 - which);
        }
    }
}
