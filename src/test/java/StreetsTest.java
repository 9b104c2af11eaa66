/** Promises 26 to 29: where an umbrella or shade does most, streets that are needed, kinds for a street. */
public final class StreetsTest {

    public static void main(String[] args) {
        umbrellas();
        shades();
        needed();
        fullTown();
        kinds();
        late();
        Check.finish();
    }

    private static void umbrellas() {
        SugarSaint x = Check.town("street 0 1 long 3;street 1 2 long 5;street 2 0 long 4;spell 0 sun 0 rain 1");
        String before = Check.portrait(x);
        Check.due("umbrella(): over the longest", x.umbrella(), 1);
        Check.same("nothing changes", Check.portrait(x), before);
        x.change(1, 4, 1);
        Check.due("not where one is", x.umbrella(), 2);
        x.change(0, 3, 4);
        Check.due("of like ones the least", x.umbrella(), 0);
        x.change(0, 4, 1);
        x.change(2, 4, 1);
        Check.due("all have one", x.umbrella(), Check.NONE);
        x.change(2, 4, 0);
        Check.due("the only one without", x.umbrella(), 2);
        x.grains(2, 0);
        Check.due("no round", x.umbrella(), Check.NONE);
        Check.due("no streets", new SugarSaint().umbrella(), Check.NONE);
        SugarSaint y = Check.town("street 0 1 long 5;street 0 1 long 5;spell 0 sun 0 rain 1");
        y.grains(0, 0);
        y.grains(1, 0);
        y.grains(2, 50);
        Check.due("no round as it is", y.round(), Check.NONE);
        Check.due("with an umbrella there is one", y.umbrella(), 0);
        y.change(0, 4, 1);
        y.change(1, 4, 1);
        Check.due("a round, but all have one", y.umbrella(), Check.NONE);
    }

    private static void shades() {
        SugarSaint x = Check.town("street 0 1 long 3;street 1 2 long 5;street 2 0 long 4");
        String before = Check.portrait(x);
        Check.due("shade(): the longest", x.shade(), 1);
        Check.same("nothing changes", Check.portrait(x), before);
        x.change(1, 0, 1);
        Check.due("it is shaded already", x.shade(), 2);
        x.change(2, 0, 3);
        Check.due("a chapel is better than shade", x.shade(), 0);
        x.change(0, 0, 6);
        Check.due("ants keep off the shade, and it is shorter", x.shade(), 0);
        x.change(0, 0, 3);
        Check.due("where none gains, one that loses nothing", x.shade(), 1);
        x.grains(2, 0);
        Check.due("no round", x.shade(), Check.NONE);
        Check.due("no streets", new SugarSaint().shade(), Check.NONE);
        SugarSaint y = Check.town("street 0 1 long 5");
        y.grains(0, 0);
        y.grains(1, 0);
        y.grains(2, 31);
        Check.due("no round as it is", y.round(), Check.NONE);
        Check.due("in the shade there is one", y.shade(), 0);
        SugarSaint all = Check.town("shaded 0 1;shaded 0 1");
        Check.due("of like ones the least", all.shade(), 0);
    }

    private static void needed() {
        SugarSaint x = Check.town("street 0 1;street 1 2;street 2 0");
        String before = Check.portrait(x);
        Check.due("needed(): all three", x.needed(), 7);
        Check.same("nothing changes", Check.portrait(x), before);
        x.street(0, 2, 1, 3);
        Check.due("a second one between 1 and 2", x.needed(), 5);
        x.street(0, 2, 7, 1);
        Check.due("a blind alley: quarter 3 can't be shown", x.needed(), Check.NONE);
        x.quarter(7, 2);
        Check.due("quarters of it are shown anyhow", x.needed(), 5);
        SugarSaint y = Check.town("street 0 1;street 0 2;quarter 2 1");
        Check.due("either will do", y.needed(), 0);
        y.quarter(2, 0);
        Check.due("without street 0 quarter 1 has no street, but is wanted as with all", y.needed(), 1);
        SugarSaint face = Check.town("chapel 0 1 long 5;steep 0 1 long 20;spell 0 sun 9;spell 1 sun 9;spell 2 sun 9");
        face.grains(0, 0);
        face.grains(1, 0);
        Check.due("by the other one her face melts", face.needed(), 1);
        Check.due("no streets", new SugarSaint().needed(), Check.NONE);
    }

    private static void fullTown() {
        SugarSaint x = new SugarSaint();
        for (int corner = 1; corner < 8; corner++) {
            x.street(0, corner - 1, corner, 1);
        }
        for (int i = 0; i < 7; i++) {
            x.street(0, 7, 0, i + 1);
        }
        x.spell(0, 1, 1);
        Check.due("rounds()", x.rounds(), 2);
        Check.due("all but one of the seven last", x.needed(), 127);
        Check.due("umbrella()", x.umbrella(), 0);
        Check.due("shade()", x.shade(), 0);
        x.change(7, 3, 9);
        Check.due("umbrella()", x.umbrella(), 7);
        Check.due("shade()", x.shade(), 7);
        x.change(13, 0, 3);
        Check.due("the 14th is no way", x.by(0, 7), 7);
        Check.due("kindFor(13)", x.kindFor(13), 3);
        Check.due("umbrellas on all but the last", umbrellasBut(x, 13), 13);
    }

    private static int umbrellasBut(SugarSaint x, int street) {
        for (int i = 0; i < 14; i++) {
            x.change(i, 4, i == street ? 0 : 1);
        }
        return x.umbrella();
    }

    private static void kinds() {
        SugarSaint x = Check.town("ants 4 5 long 5;spell 2 sun 1");
        String before = Check.portrait(x);
        Check.due("a chapel", x.kindFor(0), 3);
        Check.same("nothing changes", Check.portrait(x), before);
        x.wait(40);
        Check.due("little sun: windy is as good, and less", x.kindFor(0), 2);
        x.spell(2, 1, 1);
        Check.due("not in the rain", x.kindFor(0), 3);
        x.change(0, 4, 1);
        Check.due("under an umbrella again", x.kindFor(0), 2);
        x.spell(2, 0, 0);
        Check.due("neither sun nor rain: a street", x.kindFor(0), 0);
        x.spell(2, 0, 1);
        x.made(1);
        Check.due("of salt: half of 1 is none, so the shade", x.kindFor(0), 1);
        x.made(0);
        for (int part = 0; part < 4; part++) {
            x.grains(part, 0);
        }
        Check.due("nothing melts of nothing", x.kindFor(0), 0);
        Check.due("kindFor(1)", x.kindFor(1), Check.BEYOND);
        for (int far : Check.FAR) {
            Check.due("kindFor(" + far + ")", x.kindFor(far), Check.BEYOND);
        }
        Check.due("it is still of ants", x.of(0, 0), 6);
    }

    private static void late() {
        SugarSaint x = Check.town("street 0 1 long 3");
        for (int i = 0; i < 11; i++) {
            x.wait(60);
        }
        x.wait(40);
        Check.due("umbrella() at 700", x.umbrella(), 0);
        Check.due("shade() at 700", x.shade(), 0);
        Check.due("needed() at 700", x.needed(), 1);
        x.wait(1);
        Check.due("umbrella() at 701", x.umbrella(), Check.STATE);
        Check.due("shade() at 701", x.shade(), Check.STATE);
        Check.due("needed() at 701", x.needed(), Check.STATE);
        Check.due("kindFor() at 701", x.kindFor(0), 3);
        x.change(0, 4, 1);
        Check.due("STATE is asked ahead of NONE", x.umbrella(), Check.STATE);
    }
}
