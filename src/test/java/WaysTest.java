/** Promises 16 to 20 and 30: costs, ways, reach. */
public final class WaysTest {

    public static void main(String[] args) {
        costs();
        bestWays();
        tiesGoByOrder();
        lateWays();
        numbersOfWays();
        reach();
        Check.finish();
    }

    private static void costs() {
        SugarSaint x = Check.town("ants 3 4 long 3;spell 0 sun 1;spell 1 rain 1;spell 11 sun 0;street 5 6 umbrella");
        Check.due("costs(0, 0)", x.costs(0, 0), 5 * 7);
        Check.due("costs(0, 17): three minutes of spell 0, two of spell 1", x.costs(0, 17), 3 * 7 + 2 * 16);
        Check.due("costs(0, 218)", x.costs(0, 218), 2 * 11 + 3 * 5);
        Check.due("costs(0, 999)", x.costs(0, 999), 25);
        Check.due("under an umbrella", x.costs(1, 20), 5 * 6);
        x.made(1);
        Check.due("of salt", x.costs(0, 17), 3 * 1 + 2 * 13);
        x.made(0);
        x.grains(0, 0);
        x.grains(1, 0);
        x.grains(2, 4);
        x.grains(3, 6);
        Check.due("no more than she has", x.costs(0, 0), 10);
        Check.due("nothing changes", x.now(4), 10);
        Check.due("minute as before", x.now(7), 0);
        Check.due("costs(2, 0)", x.costs(2, 0), Check.BEYOND);
        Check.due("costs(0, 1000)", x.costs(0, 1000), Check.BEYOND);
        for (int far : Check.FAR) {
            Check.due("costs(" + far + ", 0)", x.costs(far, 0), Check.BEYOND);
            Check.due("costs(0, " + far + ")", x.costs(0, far), Check.BEYOND);
        }
    }

    /** 0-1-2 through shade is longer and better than 0-2 in the sun. */
    private static SugarSaint shadyTown() {
        return Check.town("street 0 2 long 10;shaded 0 1 long 8;shaded 1 2 long 9;chapel 2 7;street 4 5");
    }

    private static void bestWays() {
        SugarSaint x = shadyTown();
        String before = Check.portrait(x);
        Check.due("most(2)", x.most(2), 1000 - 3 * 17);
        Check.due("way(2, 0)", x.way(2, 0), 1);
        Check.due("way(2, 1)", x.way(2, 1), 2);
        Check.due("way(2, 2)", x.way(2, 2), Check.NONE);
        Check.due("soonest(2)", x.soonest(2), 10);
        Check.due("most(1)", x.most(1), 1000 - 24);
        Check.due("soonest(1)", x.soonest(1), 8);
        Check.due("most(7)", x.most(7), 1000 - 51);
        Check.due("way(7, 2)", x.way(7, 2), 7);
        Check.due("soonest(7)", x.soonest(7), 15);
        Check.due("most(0): her own", x.most(0), 1000);
        Check.due("way(0, 0): her own", x.way(0, 0), Check.NONE);
        Check.due("soonest(0): her own", x.soonest(0), 0);
        Check.due("most(4): no way", x.most(4), Check.NONE);
        Check.due("way(4, 0): no way", x.way(4, 0), Check.NONE);
        Check.due("soonest(4): no way", x.soonest(4), Check.NONE);
        Check.same("nothing changes", Check.portrait(x), before);
        for (int far : Check.FAR) {
            Check.due("most(" + far + ")", x.most(far), Check.BEYOND);
            Check.due("way(" + far + ", 0)", x.way(far, 0), Check.BEYOND);
            Check.due("way(2, " + far + ")", x.way(2, far), Check.BEYOND);
            Check.due("soonest(" + far + ")", x.soonest(far), Check.BEYOND);
        }
        Check.due("most(8)", x.most(8), Check.BEYOND);
        Check.due("way(8, 0)", x.way(8, 0), Check.BEYOND);
        Check.due("way(2, 7)", x.way(2, 7), Check.BEYOND);
        Check.due("way(2, 6)", x.way(2, 6), Check.NONE);
        Check.due("soonest(8)", x.soonest(8), Check.BEYOND);
        x.carry(2);
        x.spell(0, 1, 9);
        x.change(0, 4, 1);
        Check.due("from where and when she is", x.most(0), 940 - 60);
        Check.due("way(0, 0)", x.way(0, 0), 0);
    }

    private static void tiesGoByOrder() {
        SugarSaint x = Check.town("chapel 0 3;chapel 3 2;chapel 2 4;chapel 0 2;chapel 3 4;chapel 0 1;chapel 1 4");
        Check.due("most(4)", x.most(4), 1000);
        Check.due("of like ways the first", x.way(4, 0), 1);
        Check.due("then", x.way(4, 1), 4);
        x.change(5, 0, 0);
        Check.due("by 1 some melts", x.way(4, 0), 2);
        Check.due("2, 3, 4 is ahead of 2, 4", x.way(4, 1), 3);
        Check.due("then", x.way(4, 2), 4);
        SugarSaint y = Check.town("street 0 1 long 20;street 1 7 long 20;street 0 7 long 9");
        for (int part = 0; part < 4; part++) {
            y.grains(part, 10);
        }
        Check.due("nothing left is nothing left", y.most(7), 0);
        Check.due("and the first way that leaves so much", y.way(7, 0), 1);
    }

    private static void lateWays() {
        SugarSaint x = shadyTown();
        for (int i = 0; i < 11; i++) {
            x.wait(60);
        }
        x.wait(40);
        Check.due("at 700", x.most(2), 949);
        Check.due("minutes of the way, not of the day", x.soonest(2), 10);
        Check.due("her own at 700", x.soonest(0), 0);
        x.wait(1);
        Check.due("most at 701", x.most(2), Check.STATE);
        Check.due("her own at 701", x.most(0), Check.STATE);
        Check.due("way at 701", x.way(2, 0), Check.STATE);
        Check.due("soonest at 701", x.soonest(2), Check.STATE);
        Check.due("STATE is asked ahead of NONE", x.most(4), Check.STATE);
        Check.due("BEYOND is asked ahead of STATE", x.most(8), Check.BEYOND);
        Check.due("way: BEYOND ahead of STATE", x.way(2, 7), Check.BEYOND);
        Check.due("soonest: BEYOND ahead of STATE", x.soonest(-1), Check.BEYOND);
        Check.due("ways can be told at any time", x.ways(2), 2);
        Check.due("reach, too", x.reach(), 135);
    }

    private static void numbersOfWays() {
        SugarSaint x = shadyTown();
        int[] due = {1, 2, 2, 0, 0, 0, 0, 2};
        for (int corner = 0; corner < 8; corner++) {
            Check.due("ways(" + corner + ")", x.ways(corner), due[corner]);
        }
        x.street(0, 0, 2, 1);
        Check.due("two streets between two are one way", x.ways(2), 2);
        Check.due("ways(8)", x.ways(8), Check.BEYOND);
        for (int far : Check.FAR) {
            Check.due("ways(" + far + ")", x.ways(far), Check.BEYOND);
        }
        SugarSaint five = new SugarSaint();
        for (int one = 0; one < 5; one++) {
            for (int other = one + 1; other < 5; other++) {
                five.street(0, one, other, 1);
            }
        }
        Check.due("all with all, five of them", five.ways(4), 1 + 3 + 6 + 6);
        SugarSaint row = new SugarSaint();
        for (int corner = 0; corner < 7; corner++) {
            row.street(4, corner, corner + 1, 20);
        }
        Check.due("a row of eight", row.way(7, 6), 7);
        Check.due("its minutes", row.soonest(7), 210);
    }

    private static void reach() {
        SugarSaint x = new SugarSaint();
        Check.due("alone", x.reach(), 1);
        for (int corner = 7; corner > 1; corner--) {
            x.street(0, corner, corner - 1, 1);
        }
        Check.due("no street from home", x.reach(), 1);
        x.street(0, 7, 0, 1);
        Check.due("all, in a row", x.reach(), 255);
        SugarSaint y = Check.town("street 0 1;street 2 3;street 3 4;street 1 6");
        Check.due("not across", y.reach(), 67);
        y.carry(1);
        Check.due("from where she is", y.reach(), 67);
    }
}
