/** Promises 35 to 37: the tape and its texts. */
public final class TextsTest {

    public static void main(String[] args) {
        feeding();
        wiping();
        goodTexts();
        faults();
        faultsChangeNothing();
        tooManyStreets();
        Check.finish();
    }

    private static void feeding() {
        SugarSaint x = new SugarSaint();
        Check.due("feed of one", x.feed(0x7a7a7a73, 1), 1);
        Check.due("feed of two", x.feed(0x7a7a616c, 2), 3);
        Check.due("feed of one", x.feed('t', 1), 4);
        Check.due("count(5)", x.count(5), 4);
        Check.due("the lowest bytes, the highest first: salt", x.text(), 1);
        Check.due("now(5)", x.now(5), 1);
        Check.due("text() takes it off the tape", x.count(5), 0);
        x.feed(0x00737567, 3);
        x.feed(0x6172, 2);
        Check.due("sugar", x.text(), 1);
        Check.due("now(5)", x.now(5), 0);
        Check.due("feed(0, 0)", x.feed(0, 0), Check.BEYOND);
        Check.due("feed(0, 5)", x.feed(0, 5), Check.BEYOND);
        for (int far : Check.FAR) {
            Check.due("feed(0, " + far + ")", x.feed(0, far), Check.BEYOND);
        }
        Check.due("the tape is empty", x.count(5), 0);
        for (int i = 1; i <= 29; i++) {
            Check.due("feed " + i, x.feed(-1, 4), 4 * i);
        }
        Check.due("feed to 119", x.feed(0, 3), 119);
        Check.due("two more: FULL", x.feed(0, 2), Check.FULL);
        Check.due("none of them came", x.count(5), 119);
        Check.due("BEYOND is asked ahead of FULL", x.feed(0, 5), Check.BEYOND);
        Check.due("the 120th", x.feed(0, 1), 120);
        Check.due("the 121st: FULL", x.feed(0, 1), Check.FULL);
        Check.due("bytes above 127 begin no token", x.text(), -1);
    }

    private static void wiping() {
        SugarSaint x = new SugarSaint();
        Check.due("wipe() of nothing", x.wipe(), 0);
        Check.feed(x, "nonsense");
        Check.due("wipe()", x.wipe(), 8);
        Check.due("count(5)", x.count(5), 0);
        Check.due("what was wiped is not read", Check.text(x, "salt"), 1);
    }

    private static void goodTexts() {
        String[] words = {"street", "shaded", "windy", "chapel", "steep", "crowded", "ants"};
        for (int kind = 0; kind < 7; kind++) {
            SugarSaint x = new SugarSaint();
            Check.due(words[kind], Check.text(x, words[kind] + " 6 2"), 1);
            checkStreet(x, 0, kind, 2, 6, 5, 0);
            Check.due(words[kind], Check.text(x, words[kind] + "0 7long20umbrella;" + words[kind] + " 1 2umbrella"), 2);
            checkStreet(x, 1, kind, 0, 7, 20, 1);
            checkStreet(x, 2, kind, 1, 2, 5, 1);
        }
        SugarSaint x = new SugarSaint();
        Check.due("blanks", Check.text(x, "   spell   11   sun 0 rain 9  ;quarter 007 00000000000003;  salt  "), 3);
        Check.due("sun", x.spell(11, 0, 5), 0);
        Check.due("rain", x.spell(11, 1, 5), 9);
        Check.due("quarter", x.quarter(7, 0), 3);
        Check.due("salt", x.now(5), 1);
        Check.due("item by item", Check.text(x, "spell 0 sun 1;spell 0 sun 2;spell 0;spell 1 rain 4;sugar;salt;sugar"), 7);
        Check.due("sun", x.spell(0, 0, 5), 2);
        Check.due("rain as before", x.spell(0, 1, 5), 0);
        Check.due("sun as before", x.spell(1, 0, 5), 3);
        Check.due("rain", x.spell(1, 1, 5), 4);
        Check.due("sugar", x.now(5), 0);
        Check.due("quarter 0 of corner 0, then 1", Check.text(x, "quarter 0 0;quarter 0 1"), 2);
        Check.due("quarter", x.quarter(0, 0), 1);
        Check.due("longest length", Check.text(x, "street 0 1 long 1;street 0 1 long 20"), 2);
        Check.due("no findings", x.status(-1), 0);
    }

    private static void checkStreet(SugarSaint x, int street, int... due) {
        for (int what = 0; what < due.length; what++) {
            Check.due("of(" + street + ", " + what + ")", x.of(street, what), due[what]);
        }
    }

    private static final String[] FAULTY = {
        "", "0", "    ", "4", ";", "0", "salt;", "5", "salt; ", "6", "salt;;salt", "5", "salt salt", "5", "salt 3", "5",
        "3 salt", "0", "?salt", "0", "salt?", "4", "  Salt", "2", "salts", "0", "sal", "0", "saltsugar", "0",
        "xalt", "0", "saltz", "0", "asalt", "0", "salt`", "4", "salt{", "4", "salt/", "4", "salt:", "4", "spfll 0", "0",
        "street", "6", "street ", "7", "street 0", "8", "street 0 ", "9", "street 8 1", "7", "street 0 8", "9",
        "street 0 0", "9", "street 3 03", "9", "street 01", "9", "street 10 1", "7", "street one 1", "7",
        "street 0;1", "8", "street 0 1 long", "15", "street 0 1 long 0", "16", "street 0 1 long 21", "16",
        "street 0 1 long umbrella", "16", "street 0 1 umbrella long 3", "20", "street 0 1 umbrella umbrella", "20",
        "street 0 1 long 3 long 3", "18", "street 0 1 2", "11", "street 0 1 sun 3", "11", "street 0 1 longs 3", "11",
        "street 0 1 long 99999999999999999999", "16", "street 0 1 long 4294967297", "16", "street 4294967296 1", "7",
        "spell", "5", "spell 12", "6", "spell sun 3", "6", "spell 0 sun", "11", "spell 0 sun 10", "12",
        "spell 0 rain 10", "13", "spell 0 rain", "12", "spell 0 rain 3 sun 3", "15", "spell 0 sun 3 sun 3", "14",
        "spell 0 sun rain 3", "12", "spell 0 3", "8", "spell 0 umbrella", "8", "quarter", "7", "quarter 8 0", "8",
        "quarter 0", "9", "quarter 0 4", "10", "quarter 0 0 0", "12", "quarter 0;0", "9", "long 3", "0", "sun 3", "0",
        "rain 3", "0", "umbrella", "0", "street 0 1 long 3 umbrella;ants", "31", "salt,", "4", "salt\n;salt", "4",
        "street -1 2", "7", "street\t0 1", "6", "salt;street 0 1;spell 3 sun 9;quarter 2 5", "40"};

    private static void faults() {
        for (int i = 0; i < FAULTY.length; i += 2) {
            SugarSaint x = new SugarSaint();
            String before = Check.portrait(x);
            Check.due("text '" + FAULTY[i] + "'", Check.text(x, FAULTY[i]), -1 - Integer.parseInt(FAULTY[i + 1]));
            Check.same("'" + FAULTY[i] + "' changes nothing", Check.portrait(x), before);
            Check.due("a fault is no finding", x.status(-1), 0);
        }
    }

    private static void faultsChangeNothing() {
        SugarSaint x = Check.town("street 0 1;spell 2 sun 5;quarter 1 3");
        String before = Check.portrait(x);
        String text = "salt;ants 1 2;spell 2 sun 0 rain 3;quarter 1 0;streets";
        Check.due("a fault at the end", Check.text(x, text), -1 - text.indexOf("streets"));
        Check.same("nothing but the tape changed", Check.portrait(x), before);
        Check.due("the tape is empty", x.count(5), 0);
        Check.due("and nothing of it comes later", Check.text(x, "street 3 4"), 1);
        Check.due("streets", x.count(0), 2);
        Check.due("of the new one: kind", x.of(1, 0), 0);
        Check.due("of sugar", x.now(5), 0);
        Check.due("umbrella of a new street where a faulty text had one", Check.text(x, "ants 0 1 umbrella;?"), -19);
        Check.due("a street", x.street(0, 0, 1, 1), 2);
        Check.due("its umbrella", x.of(2, 4), 0);
    }

    private static void tooManyStreets() {
        SugarSaint x = new SugarSaint();
        for (int i = 0; i < 12; i++) {
            x.street(0, 0, 1, 1);
        }
        Check.due("a 15th street", Check.text(x, "ants 0 1;ants 0 1; ants 0 1"), -20);
        Check.due("its own fault comes ahead of what is behind it", Check.text(x, "ants 0 1;ants 0 1;ants ?"), -19);
        Check.due("none of them came", x.count(0), 12);
        Check.due("two may", Check.text(x, "ants 0 1;ants 0 1"), 2);
        Check.due("none more", Check.text(x, "salt;street 0 1"), -6);
        Check.due("other items may", Check.text(x, "salt;spell 3 sun 2"), 2);
        Check.due("streets", x.count(0), 14);
    }
}
