/** Promises 10 to 15: the saint. */
public final class SaintTest {

    public static void main(String[] args) {
        grains();
        nows();
        madeOf();
        carrying();
        meltingInOrder();
        lateCarrying();
        waiting();
        days();
        Check.finish();
    }

    private static void grains() {
        SugarSaint x = new SugarSaint();
        int[] were = {100, 200, 200, 500};
        for (int part = 0; part < 4; part++) {
            Check.due("grains(" + part + ", 9999)", x.grains(part, 9999), were[part]);
            Check.due("grains(" + part + ", 0)", x.grains(part, 0), 9999);
        }
        Check.due("none is left", x.now(4), 0);
        Check.due("setting grains melts nothing", x.now(9), 0);
        Check.due("grains(4, 0)", x.grains(4, 0), Check.BEYOND);
        Check.due("grains(0, 10000)", x.grains(0, 10000), Check.BEYOND);
        for (int far : Check.FAR) {
            Check.due("grains(" + far + ", 0)", x.grains(far, 0), Check.BEYOND);
            Check.due("grains(0, " + far + ")", x.grains(0, far), Check.BEYOND);
        }
        Check.due("as it was", x.now(0), 0);
    }

    private static void nows() {
        SugarSaint x = Check.town("salt;street 0 6 long 3");
        x.carry(6);
        // sun 3 melts 6, of salt 3 a minute
        int[] due = {91, 200, 200, 500, 991, 1, 6, 3, 4, 9};
        for (int what = 0; what < due.length; what++) {
            Check.due("now(" + what + ")", x.now(what), due[what]);
        }
        Check.due("now(10)", x.now(10), Check.BEYOND);
        for (int far : Check.FAR) {
            Check.due("now(" + far + ")", x.now(far), Check.BEYOND);
        }
    }

    private static void madeOf() {
        SugarSaint x = new SugarSaint();
        Check.due("made(1)", x.made(1), 0);
        Check.due("made(1)", x.made(1), 1);
        Check.due("made(0)", x.made(0), 1);
        Check.due("made(2)", x.made(2), Check.BEYOND);
        for (int far : Check.FAR) {
            Check.due("made(" + far + ")", x.made(far), Check.BEYOND);
        }
        Check.due("now(5)", x.now(5), 0);
    }

    private static void carrying() {
        SugarSaint x = Check.town("street 0 1 long 10;street 1 0 long 1;steep 1 2 long 20;spell 1 sun 9 rain 2");
        Check.due("carry(1): by the least street", x.carry(1), 60);
        Check.due("minute", x.now(7), 10);
        Check.due("corner", x.now(6), 1);
        Check.due("seen", x.now(8), 2);
        // ten minutes of sun 3 at 3 a minute, then twenty of sun 9 (15) and rain 2 (12)
        Check.due("costs(2, 10) goes over two spells", x.costs(2, 10), 10 * 3 + 20 * 27);
        Check.due("carry(2)", x.carry(2), 570);
        Check.due("minute", x.now(7), 40);
        Check.due("halo", x.now(0), 0);
        Check.due("arms", x.now(1), 0);
        Check.due("face", x.now(2), 0);
        Check.due("body", x.now(3), 370);
        Check.due("quarter 2 saw no face", x.now(8), 2);
        Check.due("molten", x.now(9), 630);
        Check.due("carry(0): no street", x.carry(0), Check.NONE);
        Check.due("carry(2): she is there", x.carry(2), Check.NONE);
        Check.due("carry(8)", x.carry(8), Check.BEYOND);
        for (int far : Check.FAR) {
            Check.due("carry(" + far + ")", x.carry(far), Check.BEYOND);
        }
        Check.due("minute as before", x.now(7), 40);
        x.grains(3, 5);
        Check.due("no more melts than there is", x.carry(1), 5);
        Check.due("molten counts what did", x.now(9), 635);
        Check.due("nothing melts of nothing", x.carry(0), 0);
        Check.due("molten", x.now(9), 635);
        Check.due("she is there all the same", x.now(6), 0);
    }

    private static void meltingInOrder() {
        SugarSaint x = Check.town("street 0 1 long 1;spell 0 sun 5");
        x.grains(0, 4);
        x.grains(1, 5);
        x.grains(2, 2);
        Check.due("ten grains", x.carry(1), 10);
        Check.due("halo", x.now(0), 0);
        Check.due("arms", x.now(1), 0);
        Check.due("face", x.now(2), 1);
        Check.due("body", x.now(3), 500);
        Check.due("one grain of face is a face", x.now(8), 2);
        Check.due("ten more", x.carry(0), 10);
        Check.due("face", x.now(2), 0);
        Check.due("body", x.now(3), 491);
        Check.due("no face, no seeing", x.now(8), 2);
        SugarSaint y = Check.town("street 0 1 long 1");
        y.grains(2, 0);
        y.carry(1);
        Check.due("halo and arms are no face", y.now(8), 0);
    }

    private static void lateCarrying() {
        SugarSaint x = Check.town("crowded 0 1 long 4;street 0 2 long 7;spell 11 sun 0;spell 10 sun 9");
        for (int i = 0; i < 16; i++) {
            x.wait(60);
        }
        x.wait(33);
        Check.due("minute", x.now(7), 993);
        Check.due("carry(2) would end at 1000", x.carry(2), Check.STATE);
        Check.due("where no street goes, NONE is asked ahead of STATE", x.carry(3), Check.NONE);
        Check.due("carry(1) ends at 999; spell 11 is all behind, too", x.carry(1), 12);
        Check.due("minute", x.now(7), 999);
        Check.due("carry(0)", x.carry(0), Check.STATE);
        SugarSaint y = Check.town("street 0 1 long 2;spell 10 sun 9;spell 11 sun 1");
        for (int i = 0; i < 3; i++) {
            y.wait(60);
        }
        y.wait(39);
        Check.due("minutes 219 and 220", y.carry(1), 18 + 2);
    }

    private static void waiting() {
        SugarSaint x = Check.town("street 0 1;spell 0 sun 9 rain 9");
        Check.due("wait(1)", x.wait(1), 1);
        Check.due("wait(60)", x.wait(60), 61);
        Check.due("none melts", x.now(4), 1000);
        Check.due("none sees her", x.now(8), 0);
        Check.due("wait(0)", x.wait(0), Check.BEYOND);
        Check.due("wait(61)", x.wait(61), Check.BEYOND);
        for (int far : Check.FAR) {
            Check.due("wait(" + far + ")", x.wait(far), Check.BEYOND);
        }
        for (int i = 0; i < 15; i++) {
            x.wait(60);
        }
        Check.due("minute", x.now(7), 961);
        Check.due("wait(39) would end at 1000", x.wait(39), Check.STATE);
        Check.due("BEYOND is asked ahead of STATE", x.wait(61), Check.BEYOND);
        Check.due("wait(38)", x.wait(38), 999);
        Check.due("wait(1)", x.wait(1), Check.STATE);
        Check.due("minute", x.now(7), 999);
    }

    private static void days() {
        SugarSaint x = Check.town("street 0 1 long 1;street 1 2 long 1;street 2 5 long 1");
        Check.due("no quarter yet", x.day(), 0);
        x.carry(1);
        x.carry(2);
        x.carry(5);
        Check.due("quarters 1 and 2, corner 5 being of 1", x.day(), 2);
        Check.due("minute", x.now(7), 0);
        Check.due("seen", x.now(8), 0);
        Check.due("home", x.now(6), 0);
        Check.due("molten goes on", x.now(9), 18);
        Check.due("what melted is gone", x.now(4), 982);
        Check.due("no quarter again", x.day(), 0);
    }
}
