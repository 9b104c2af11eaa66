/** Promises 21 to 25: rounds, when to start, what to be of. */
public final class RoundsTest {

    public static void main(String[] args) {
        plainRounds();
        thereAndBack();
        facesAndQuarters();
        ordersOfRounds();
        lateRounds();
        longestRound();
        starts();
        betterOf();
        Check.finish();
    }

    /** Three corners of three quarters, all joined; the way by 2 first is under the sun of spell 0. */
    private static SugarSaint triangle() {
        return Check.town("street 0 1 long 10;shaded 1 2 long 10;street 2 0 long 4");
    }

    private static void plainRounds() {
        SugarSaint x = triangle();
        String before = Check.portrait(x);
        Check.due("round()", x.round(), 1000 - 60 - 30 - 24);
        Check.due("rounds(): both ways round; out and back shows too little", x.rounds(), 2);
        Check.due("ith(0): of like ones the first", x.ith(0), 1);
        Check.due("ith(1)", x.ith(1), 2);
        Check.due("ith(2): she herself is not one of them", x.ith(2), Check.NONE);
        Check.same("nothing changes", Check.portrait(x), before);
        x.spell(0, 0, 9);
        Check.due("round(): the sun of spell 0 melts 18 in the open, 9 in the shade", x.round(),
                1000 - Math.min(10 * 18 + 10 * 9 + 4 * 6, 4 * 18 + 10 * 9 + 6 * 18 + 4 * 6));
        Check.due("ith(0)", x.ith(0), 1);
        x.change(0, 3, 6);
        // 1 first: 6 * 18 + 10 * 9 + 4 * 18; 2 first: 4 * 18 + 10 * 9 + 6 * 18: the same, all in spell 0
        Check.due("round()", x.round(), 1000 - 270);
        x.spell(0, 0, 3);
        x.spell(1, 0, 9);
        x.wait(14);
        // 1 first: 6 * 6, then 10 * 9, 4 * 18; 2 first: 4 * 6, 2 * 3, 8 * 9, 6 * 18
        Check.due("round() from minute 14", x.round(), 1000 - 198);
        Check.due("ith(0)", x.ith(0), 1);
        x.wait(3);
        // 1 first: 3 * 6 + 3 * 18, 90, 72; 2 first: 3 * 6 + 18, 90, 6 * 18
        Check.due("round() from minute 17", x.round(), 1000 - 234);
        Check.due("rounds()", x.rounds(), 2);
        for (int far : Check.FAR) {
            Check.due("ith(" + far + ")", x.ith(far), Check.BEYOND);
        }
        Check.due("ith(7)", x.ith(7), Check.BEYOND);
        Check.due("ith(6)", x.ith(6), Check.NONE);
    }

    private static void thereAndBack() {
        SugarSaint x = Check.town("street 0 4 long 10");
        Check.due("round(): there and back by one street", x.round(), 1000 - 120);
        Check.due("rounds()", x.rounds(), 1);
        Check.due("ith(0)", x.ith(0), 4);
        Check.due("ith(1)", x.ith(1), Check.NONE);
        x.street(0, 5, 6, 1);
        Check.due("quarters of streets far off are wanted, too", x.round(), Check.NONE);
        Check.due("rounds()", x.rounds(), 0);
        Check.due("ith(0)", x.ith(0), Check.NONE);
        SugarSaint alone = new SugarSaint();
        Check.due("standing still is no round", alone.round(), Check.NONE);
        Check.due("rounds()", alone.rounds(), 0);
        SugarSaint twin = Check.town("street 0 4 long 10;chapel 0 4 long 1");
        Check.due("of two streets the one with the least number, both times", twin.round(), 880);
        Check.due("rounds()", twin.rounds(), 1);
    }

    private static void facesAndQuarters() {
        SugarSaint x = Check.town("street 0 1 long 10");
        x.grains(0, 0);
        x.grains(1, 0);
        x.grains(2, 120);
        Check.due("home would not see her face: quarter 0 is wanted", x.round(), Check.NONE);
        x.grains(2, 121);
        Check.due("a grain of face is left", x.round(), 501);
        x.grains(2, 0);
        Check.due("without a face", x.round(), Check.NONE);
        x.grains(2, 61);
        x.quarter(0, 1);
        Check.due("one quarter, which sees her at the first corner", x.round(), 441);
        x.grains(2, 60);
        Check.due("or not", x.round(), Check.NONE);
        x.grains(2, 500);
        x.quarter(0, 0);
        x.carry(1);
        x.carry(0);
        x.grains(2, 0);
        Check.due("those that saw her ahead of it count", x.round(), 380);
        Check.due("rounds()", x.rounds(), 1);
        x.day();
        Check.due("a new day they have not", x.round(), Check.NONE);
        SugarSaint y = Check.town("street 0 1;street 0 2");
        Check.due("no round shows her to 1 and 2", y.round(), Check.NONE);
        y.carry(1);
        y.carry(0);
        Check.due("but 1 has seen her", y.round(), 940 - 60);
        Check.due("so has 0", y.ith(0), 2);
    }

    private static void ordersOfRounds() {
        SugarSaint x = Check.town("chapel 0 1;chapel 1 2;chapel 2 0;chapel 1 3;chapel 3 0;quarter 1 0;quarter 2 0;"
                + "quarter 3 0");
        // 1; 1 2; 1 3; 2; 2 1; 2 1 3; 3; 3 1; 3 1 2
        Check.due("rounds()", x.rounds(), 9);
        Check.due("round()", x.round(), 1000);
        Check.due("ith(0)", x.ith(0), 1);
        Check.due("a shorter one is ahead of those that go on", x.ith(1), Check.NONE);
        x.quarter(3, 3);
        Check.due("rounds() by 3", x.rounds(), 5);
        Check.due("ith(0)", x.ith(0), 1);
        Check.due("ith(1)", x.ith(1), 3);
        x.quarter(2, 2);
        Check.due("rounds() by 2 and 3", x.rounds(), 2);
        Check.due("ith(0)", x.ith(0), 2);
        Check.due("ith(1)", x.ith(1), 1);
        Check.due("ith(2)", x.ith(2), 3);
        SugarSaint y = Check.town("chapel 5 1;chapel 1 2;chapel 2 5;quarter 1 1;quarter 2 1;chapel 0 5;quarter 0 1");
        y.carry(5);
        Check.due("she comes back to 5: 0; 1; 1 2; 2; 2 1", y.rounds(), 5);
        Check.due("ith(0)", y.ith(0), 0);
        Check.due("ith(1)", y.ith(1), Check.NONE);
        y.change(3, 0, 0);
        Check.due("1 is ahead of 1 2, though 2 is less than 5", y.ith(0), 1);
        Check.due("ith(1)", y.ith(1), Check.NONE);
    }

    private static void lateRounds() {
        SugarSaint x = triangle();
        for (int i = 0; i < 11; i++) {
            x.wait(60);
        }
        x.wait(40);
        Check.due("round() at 700", x.round(), 886);
        Check.due("start() at 700", x.start(), 0);
        x.wait(1);
        Check.due("round()", x.round(), Check.STATE);
        Check.due("ith(0)", x.ith(0), Check.STATE);
        Check.due("ith(7): BEYOND ahead of STATE", x.ith(7), Check.BEYOND);
        Check.due("rounds()", x.rounds(), Check.STATE);
        Check.due("start()", x.start(), Check.STATE);
        Check.due("better()", x.better(), Check.STATE);
        SugarSaint y = new SugarSaint();
        for (int i = 0; i < 12; i++) {
            y.wait(60);
        }
        Check.due("STATE is asked ahead of NONE", y.round(), Check.STATE);
        Check.due("ith", y.ith(0), Check.STATE);
        Check.due("start", y.start(), Check.STATE);
        Check.due("better", y.better(), Check.STATE);
        Check.due("a finding each", y.status(4), 4);
    }

    private static void longestRound() {
        SugarSaint x = new SugarSaint();
        for (int corner = 0; corner < 8; corner++) {
            x.street(4, corner, (corner + 1) % 8, 20);
        }
        for (int i = 0; i < 12; i++) {
            x.spell(i, 0, 2);
        }
        // out and back to 1 or 7 shows quarters 0 and 1 or 3 alone
        Check.due("rounds()", x.rounds(), 2);
        Check.due("round()", x.round(), 1000 - 240);
        for (int i = 0; i < 7; i++) {
            Check.due("ith(" + i + ")", x.ith(i), i + 1);
        }
        for (int i = 0; i < 11; i++) {
            x.wait(60);
        }
        x.wait(40);
        Check.due("from 700", x.round(), 760);
        Check.due("start() from 700", x.start(), 0);
    }

    private static void starts() {
        SugarSaint x = Check.town("street 0 1 long 5;spell 0 sun 9;spell 1 sun 2;spell 2 sun 1;spell 3 sun 5");
        String before = Check.portrait(x);
        Check.due("start() in the spell of least sun", x.start(), 40);
        Check.same("nothing changes", Check.portrait(x), before);
        x.spell(2, 0, 2);
        Check.due("of several the least", x.start(), 20);
        x.wait(3);
        Check.due("from minute 3", x.start(), 17);
        x.spell(3, 0, 0);
        Check.due("sixty minutes are the most: 63 to 72", x.start(), 57);
        x.day();
        Check.due("wait 60: 60 to 69", x.start(), 60);
        x.spell(3, 0, 3);
        x.spell(0, 0, 2);
        Check.due("at once", x.start(), 0);
        x.grains(2, 0);
        Check.due("no round by any", x.start(), Check.NONE);
        x.grains(0, 0);
        x.grains(1, 0);
        x.grains(2, 15);
        x.spell(0, 0, 9);
        x.spell(1, 0, 9);
        x.spell(2, 0, 0);
        Check.due("a round only from 40 on, or some minutes ahead of it", x.start(), 40);
        x.grains(3, 0);
        x.spell(2, 0, 1);
        x.grains(2, 21);
        Check.due("only in spell 2", x.start(), 40);
        x.grains(2, 20);
        Check.due("not even then", x.start(), Check.NONE);
    }

    private static void betterOf() {
        SugarSaint x = Check.town("street 0 1 long 5");
        String before = Check.portrait(x);
        Check.due("sun alone: salt melts half as much", x.better(), 1);
        Check.same("nothing changes", Check.portrait(x), before);
        x.made(1);
        Check.due("whatever she is of", x.better(), 1);
        x.spell(0, 1, 4);
        Check.due("in the rain: sugar", x.better(), 0);
        x.change(0, 4, 1);
        Check.due("under an umbrella: salt", x.better(), 1);
        x.spell(0, 0, 0);
        Check.due("the same of both: sugar", x.better(), 0);
        x.change(0, 0, 6);
        Check.due("ants don't lick salt", x.better(), 1);
        x.grains(2, 0);
        Check.due("no round for either", x.better(), Check.NONE);
        x.grains(0, 0);
        x.grains(1, 0);
        x.grains(2, 1);
        x.grains(3, 0);
        Check.due("a round for salt alone", x.better(), 1);
        SugarSaint y = Check.town("street 0 1 long 5;spell 0 sun 0 rain 1");
        y.grains(0, 0);
        y.grains(1, 0);
        y.grains(2, 60);
        y.made(1);
        Check.due("she is of salt: none", y.round(), Check.NONE);
        Check.due("a round for sugar alone", y.better(), 0);
    }
}
