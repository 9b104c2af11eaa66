/** Promises 1 to 9: a new object and the town. */
public final class TownTest {

    public static void main(String[] args) {
        newObject();
        streets();
        ofStreets();
        changes();
        quarters();
        spells();
        losses();
        neighbours();
        leastStreets();
        Check.finish();
    }

    private static void newObject() {
        SugarSaint x = new SugarSaint();
        int[] now = {100, 200, 200, 500, 1000, 0, 0, 0, 0, 0};
        for (int what = 0; what < now.length; what++) {
            Check.due("new: now(" + what + ")", x.now(what), now[what]);
        }
        int[] count = {0, 0, 0, 36, 0, 0, 1, 0};
        for (int what = 0; what < count.length; what++) {
            Check.due("new: count(" + what + ")", x.count(what), count[what]);
        }
        Check.due("new: status(-1)", x.status(-1), 0);
        Check.due("new: tear()", x.tear(), 0);
        Check.due("new: undo()", x.undo(), Check.NONE);
        for (int corner = 0; corner < 8; corner++) {
            Check.due("new: quarter(" + corner + ", 0)", x.quarter(corner, 0), corner % 4);
        }
        for (int i = 0; i < 12; i++) {
            Check.due("new: spell(" + i + ", 0, 0)", x.spell(i, 0, 0), 3);
            Check.due("new: spell(" + i + ", 1, 0)", x.spell(i, 1, 0), 0);
        }
        for (int s = 0; s < 4; s++) {
            Check.due("new: judge(" + s + ")", x.judge(s), Check.MISSING);
        }
        for (int spot = 0; spot < 10; spot++) {
            Check.due("new: as(" + spot + ", 0)", x.as(spot, 0), Check.MISSING);
        }
        SugarSaint other = new SugarSaint();
        Check.due("objects share nothing", other.quarter(3, 0), 3);
    }

    private static void streets() {
        SugarSaint x = new SugarSaint();
        for (int i = 0; i < 14; i++) {
            Check.due("street " + i, x.street(i % 7, i % 8, (i + 1) % 8, i + 1), i);
        }
        Check.due("street 15: FULL", x.street(0, 0, 1, 1), Check.FULL);
        Check.due("BEYOND is asked ahead of FULL", x.street(7, 0, 1, 1), Check.BEYOND);
        Check.due("count(0)", x.count(0), 14);
        SugarSaint y = new SugarSaint();
        Check.due("kind -1", y.street(-1, 0, 1, 1), Check.BEYOND);
        Check.due("kind 7", y.street(7, 0, 1, 1), Check.BEYOND);
        Check.due("one and the same", y.street(0, 3, 3, 1), Check.BEYOND);
        Check.due("length 0", y.street(0, 0, 1, 0), Check.BEYOND);
        Check.due("length 21", y.street(0, 0, 1, 21), Check.BEYOND);
        Check.due("corner 8", y.street(0, 8, 1, 1), Check.BEYOND);
        Check.due("other corner 8", y.street(0, 1, 8, 1), Check.BEYOND);
        for (int far : Check.FAR) {
            Check.due("kind " + far, y.street(far, 0, 1, 1), Check.BEYOND);
            Check.due("one " + far, y.street(0, far, 1, 1), Check.BEYOND);
            Check.due("other " + far, y.street(0, 1, far, 1), Check.BEYOND);
            Check.due("length " + far, y.street(0, 0, 1, far), Check.BEYOND);
        }
        Check.due("nothing came of it", y.count(0), 0);
        Check.due("the shortest", y.street(6, 7, 0, 1), 0);
        Check.due("the longest", y.street(0, 0, 7, 20), 1);
        Check.due("the same two again", y.street(0, 0, 7, 20), 2);
    }

    private static void ofStreets() {
        SugarSaint x = new SugarSaint();
        int[] takes = {7, 7, 7, 7, 10, 9, 9};
        int[] licks = {0, 0, 0, 0, 0, 2, 5};
        for (int kind = 0; kind < 7; kind++) {
            x.street(kind, 6, 2, 7);
            int[] of = {kind, 2, 6, 7, 0, takes[kind], licks[kind]};
            for (int what = 0; what < of.length; what++) {
                Check.due("of(" + kind + ", " + what + ")", x.of(kind, what), of[what]);
            }
        }
        x.made(1);
        Check.due("LICKS is the street's, whatever she is of", x.of(6, 6), 5);
        Check.due("of: what 7", x.of(0, 7), Check.BEYOND);
        Check.due("of: street 7", x.of(7, 0), Check.BEYOND);
        for (int far : Check.FAR) {
            Check.due("of(" + far + ", 0)", x.of(far, 0), Check.BEYOND);
            Check.due("of(0, " + far + ")", x.of(0, far), Check.BEYOND);
        }
        SugarSaint y = new SugarSaint();
        y.street(4, 0, 1, 1);
        Check.due("a steep street of one minute", y.of(0, 5), 1);
        y.change(0, 3, 20);
        Check.due("a steep street of twenty", y.of(0, 5), 30);
    }

    private static void changes() {
        SugarSaint x = new SugarSaint();
        x.street(2, 0, 1, 9);
        Check.due("change kind", x.change(0, 0, 6), 2);
        Check.due("kind then", x.of(0, 0), 6);
        Check.due("change length", x.change(0, 3, 20), 9);
        Check.due("length then", x.of(0, 3), 20);
        Check.due("change to the least length", x.change(0, 3, 1), 20);
        Check.due("and back", x.change(0, 3, 20), 1);
        Check.due("change umbrella", x.change(0, 4, 1), 0);
        Check.due("umbrella then", x.of(0, 4), 1);
        Check.due("umbrella off", x.change(0, 4, 0), 1);
        int[][] wrong = {{1, 0, 0}, {-1, 0, 0}, {0, 1, 3}, {0, 2, 3}, {0, 5, 1}, {0, 6, 1}, {0, -1, 1}, {0, 0, 7},
            {0, 0, -1}, {0, 3, 0}, {0, 3, 21}, {0, 4, 2}, {0, 4, -1}};
        for (int[] w : wrong) {
            Check.due("change(" + w[0] + ", " + w[1] + ", " + w[2] + ")", x.change(w[0], w[1], w[2]), Check.BEYOND);
        }
        for (int far : Check.FAR) {
            Check.due("change(" + far + ", 0, 0)", x.change(far, 0, 0), Check.BEYOND);
            Check.due("change(0, " + far + ", 0)", x.change(0, far, 0), Check.BEYOND);
            Check.due("change(0, 3, " + far + ")", x.change(0, 3, far), Check.BEYOND);
        }
        Check.due("kind as before", x.of(0, 0), 6);
        Check.due("length as before", x.of(0, 3), 20);
        Check.due("umbrella as before", x.of(0, 4), 0);
        Check.due("all wrong ones are counted", x.status(0), wrong.length + 3 * Check.FAR.length);
    }

    private static void quarters() {
        SugarSaint x = new SugarSaint();
        Check.due("quarter(5, 3)", x.quarter(5, 3), 1);
        Check.due("quarter(5, 0)", x.quarter(5, 0), 3);
        Check.due("quarter(1, 2)", x.quarter(1, 2), 1);
        Check.due("quarter(8, 0)", x.quarter(8, 0), Check.BEYOND);
        Check.due("quarter(0, 4)", x.quarter(0, 4), Check.BEYOND);
        for (int far : Check.FAR) {
            Check.due("quarter(" + far + ", 0)", x.quarter(far, 0), Check.BEYOND);
            Check.due("quarter(0, " + far + ")", x.quarter(0, far), Check.BEYOND);
        }
        Check.due("as it was", x.quarter(0, 0), 0);
    }

    private static void spells() {
        SugarSaint x = new SugarSaint();
        Check.due("sun", x.spell(0, 0, 9), 3);
        Check.due("rain", x.spell(0, 1, 7), 0);
        Check.due("sun again", x.spell(0, 0, 0), 9);
        Check.due("rain again", x.spell(0, 1, 0), 7);
        Check.due("the last spell", x.spell(11, 0, 4), 3);
        Check.due("spell(12, 0, 0)", x.spell(12, 0, 0), Check.BEYOND);
        Check.due("spell(0, 2, 0)", x.spell(0, 2, 0), Check.BEYOND);
        Check.due("spell(0, 0, 10)", x.spell(0, 0, 10), Check.BEYOND);
        Check.due("spell(0, 1, 10)", x.spell(0, 1, 10), Check.BEYOND);
        for (int far : Check.FAR) {
            Check.due("spell(" + far + ", 0, 0)", x.spell(far, 0, 0), Check.BEYOND);
            Check.due("spell(0, " + far + ", 0)", x.spell(0, far, 0), Check.BEYOND);
            Check.due("spell(0, 0, " + far + ")", x.spell(0, 0, far), Check.BEYOND);
        }
        Check.due("sun of all", x.count(3), 10 * 3 + 4);
        Check.due("rain of all", x.count(4), 0);
    }

    private static void losses() {
        SugarSaint x = new SugarSaint();
        for (int kind = 0; kind < 7; kind++) {
            x.street(kind, 0, 1, 5);
        }
        x.spell(4, 0, 7);
        x.spell(4, 1, 3);
        x.spell(5, 0, 1);
        // sun 7: 14, 7, 11, 0, 11, 14, 14; rain 3: 15, 15, 18, 0, 18, 15, 15
        checkLosses(x, "sugar", 4, 29, 22, 29, 0, 29, 31, 34);
        checkLosses(x, "little sun", 5, 2, 1, 0, 0, 0, 4, 7);
        x.made(1);
        checkLosses(x, "salt", 4, 37, 33, 41, 0, 41, 37, 37);
        for (int kind = 0; kind < 7; kind++) {
            x.change(kind, 4, 1);
        }
        checkLosses(x, "salt, umbrella", 4, 7, 3, 5, 0, 5, 7, 7);
        x.made(0);
        checkLosses(x, "sugar, umbrella", 4, 14, 7, 11, 0, 11, 16, 19);
        Check.due("loss(0, 11): the last spell", x.loss(0, 11), 6);
        Check.due("loss(7, 0)", x.loss(7, 0), Check.BEYOND);
        Check.due("loss(0, 12)", x.loss(0, 12), Check.BEYOND);
        for (int far : Check.FAR) {
            Check.due("loss(" + far + ", 0)", x.loss(far, 0), Check.BEYOND);
            Check.due("loss(0, " + far + ")", x.loss(0, far), Check.BEYOND);
        }
    }

    private static void checkLosses(SugarSaint x, String what, int spell, int... due) {
        for (int street = 0; street < due.length; street++) {
            Check.due(what + ": loss(" + street + ", " + spell + ")", x.loss(street, spell), due[street]);
        }
    }

    private static void neighbours() {
        SugarSaint x = Check.town("street 0 7;street 7 3;ants 0 3;street 3 0");
        int[] due = {136, 0, 0, 129, 0, 0, 0, 9};
        for (int corner = 0; corner < 8; corner++) {
            Check.due("next(" + corner + ")", x.next(corner), due[corner]);
        }
        Check.due("next(8)", x.next(8), Check.BEYOND);
        for (int far : Check.FAR) {
            Check.due("next(" + far + ")", x.next(far), Check.BEYOND);
        }
    }

    private static void leastStreets() {
        SugarSaint x = Check.town("street 0 7;street 7 3;ants 0 3;street 3 0;street 7 0");
        Check.due("by(0, 7)", x.by(0, 7), 0);
        Check.due("by(7, 0)", x.by(7, 0), 0);
        Check.due("by(3, 7)", x.by(3, 7), 1);
        Check.due("by(0, 3): the least", x.by(0, 3), 2);
        Check.due("by(3, 0): the least", x.by(3, 0), 2);
        Check.due("by(0, 1)", x.by(0, 1), Check.NONE);
        Check.due("by(0, 0)", x.by(0, 0), Check.BEYOND);
        Check.due("by(0, 8)", x.by(0, 8), Check.BEYOND);
        Check.due("by(8, 0)", x.by(8, 0), Check.BEYOND);
        for (int far : Check.FAR) {
            Check.due("by(" + far + ", 0)", x.by(far, 0), Check.BEYOND);
            Check.due("by(0, " + far + ")", x.by(0, far), Check.BEYOND);
        }
    }
}
