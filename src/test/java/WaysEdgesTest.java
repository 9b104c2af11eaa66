/** The boundary cases of promises 16 to 20 and 30, sentence by sentence. */
public final class WaysEdgesTest {

    public static void main(String[] args) {
        costs();
        most();
        way();
        soonest();
        ways();
        reach();
        Check.finish();
    }

    private static void costs() {
        Edges.check("costs", """
            # a STREET that there is
            costs(0, 0) = BEYOND
            street(0, 3, 4, 1)
            costs(-1, 0) = BEYOND
            costs(0, 0) = 6
            costs(1, 0) = BEYOND
            costs(MIN, 0) = BEYOND
            costs(MAX, 0) = BEYOND

            # m 0 to 999
            street(0, 3, 4, 20)
            spell(0, 0, 0)
            spell(11, 0, 4)
            costs(0, -1) = BEYOND
            costs(0, 0) = 0
            costs(0, 1) = 6
            costs(0, 999) = 160
            costs(0, 1000) = BEYOND
            costs(0, MIN) = BEYOND
            costs(0, MAX) = BEYOND

            # the edges of SPELLS
            'street 0 1 long 2; spell 0 sun 1; spell 1 sun 2; spell 10 sun 4; spell 11 sun 8'
            text() = 5
            costs(0, 18) = 4
            costs(0, 19) = 6
            costs(0, 20) = 8
            costs(0, 38) = 8
            costs(0, 39) = 10
            costs(0, 199) = 14
            costs(0, 200) = 16
            costs(0, 218) = 16
            costs(0, 219) = 24
            costs(0, 220) = 32
            costs(0, 239) = 32
            costs(0, 240) = 32

            # GRAINS of hers: as many as she has, and no more
            street(0, 0, 1, 1)
            grains(0, 0)
            grains(1, 0)
            grains(2, 3)
            grains(3, 4)
            costs(0, 0) = 6
            grains(3, 3)
            costs(0, 0) = 6
            grains(3, 2)
            costs(0, 0) = 5
            grains(2, 0)
            grains(3, 0)
            costs(0, 0) = 0

            # whatever her CORNER and MINUTE
            street(0, 3, 4, 1)
            16 x wait(60)
            wait(39) = 999
            costs(0, 999) = 6
            now(6) = 0
            now(7) = 999
            """);
    }

    private static void most() {
        Edges.check("most", """
            # CORNERS 0 to 7
            street(0, 0, 7, 1)
            most(-1) = BEYOND
            most(0) = 1000
            most(7) = 994
            most(8) = BEYOND
            most(MIN) = BEYOND
            most(MAX) = BEYOND

            # her own: all she has, though no STREET goes there
            most(0) = 1000
            grains(0, 0)
            grains(1, 0)
            grains(2, 0)
            grains(3, 0)
            most(0) = 0

            # STATE: MINUTE is above 700
            street(0, 0, 7, 1)
            11 x wait(60)
            wait(40) = 700
            most(7) = 994
            most(0) = 1000
            wait(1) = 701
            most(7) = STATE
            most(0) = STATE

            # NONE: no WAY
            'street 0 1; street 2 3'
            text() = 2
            most(2) = NONE
            most(3) = NONE
            most(7) = NONE

            # BEYOND is asked ahead of STATE, STATE ahead of NONE
            12 x wait(60)
            most(8) = BEYOND
            most(-1) = BEYOND
            most(1) = STATE

            # nothing LEFT is a number of GRAINS, too
            street(0, 0, 7, 1)
            grains(0, 0)
            grains(1, 0)
            grains(2, 0)
            grains(3, 7)
            most(7) = 1
            grains(3, 6)
            most(7) = 0
            grains(3, 5)
            most(7) = 0

            # the longest WAY from the last MINUTE that is let in
            'steep 0 1 long 20; steep 1 2 long 20; steep 2 3 long 20; steep 3 4 long 20; steep 4 5 long 20'
            text() = 5
            'steep 5 6 long 20; steep 6 7 long 20'
            text() = 2
            11 x wait(60)
            wait(40) = 700
            most(7) = 1000 - 630
            soonest(7) = 210
            """);
    }

    private static void way() {
        Edges.check("way", """
            # CORNERS 0 to 7
            street(0, 0, 7, 1)
            way(-1, 0) = BEYOND
            way(7, 0) = 7
            way(8, 0) = BEYOND
            way(MIN, 0) = BEYOND
            way(MAX, 0) = BEYOND

            # i 0 to 6
            'street 0 1; street 1 2; street 2 3; street 3 4; street 4 5; street 5 6; street 6 7'
            text() = 7
            way(7, -1) = BEYOND
            way(7, 0) = 1
            way(7, 5) = 6
            way(7, 6) = 7
            way(7, 7) = BEYOND
            way(7, MIN) = BEYOND
            way(7, MAX) = BEYOND
            # NONE: also if it has not so many
            way(6, 5) = 6
            way(6, 6) = NONE
            way(1, 0) = 1
            way(1, 1) = NONE
            # her own: none behind hers
            way(0, 0) = NONE
            way(0, 6) = NONE

            # no WAY
            street(0, 1, 2, 5)
            way(1, 0) = NONE
            way(7, 6) = NONE

            # STATE: MINUTE is above 700
            street(0, 0, 7, 1)
            11 x wait(60)
            wait(40) = 700
            way(7, 0) = 7
            way(7, 1) = NONE
            wait(1)
            way(7, 0) = STATE
            # BEYOND is asked ahead of STATE, STATE ahead of NONE
            way(7, 7) = BEYOND
            way(8, 0) = BEYOND
            way(7, 1) = STATE
            way(3, 0) = STATE

            # the first WAY that leaves so much: by their first CORNER
            'chapel 0 6; chapel 6 7; chapel 0 5; chapel 5 7; chapel 0 7'
            text() = 5
            way(7, 0) = 5
            way(7, 1) = 7
            way(7, 2) = NONE

            # the second one, where the first is the same
            'chapel 0 1; chapel 1 3; chapel 1 2; chapel 2 7; chapel 3 7'
            text() = 5
            way(7, 0) = 1
            way(7, 1) = 2
            way(7, 2) = 7

            # of two that leave nothing the first
            'street 0 1 long 20; street 1 7 long 20; street 0 7 long 1'
            text() = 3
            grains(0, 0)
            grains(1, 0)
            grains(2, 0)
            grains(3, 6)
            way(7, 0) = 1
            grains(3, 7)
            way(7, 0) = 7
            """);
    }

    private static void soonest() {
        Edges.check("soonest", """
            # CORNERS 0 to 7
            street(4, 0, 7, 3)
            soonest(-1) = BEYOND
            soonest(0) = 0
            soonest(7) = 4
            soonest(8) = BEYOND
            soonest(MIN) = BEYOND
            soonest(MAX) = BEYOND

            # STATE, NONE
            'street 0 1 long 1; street 2 3'
            text() = 2
            soonest(2) = NONE
            11 x wait(60)
            wait(40) = 700
            soonest(1) = 1
            soonest(0) = 0
            soonest(2) = NONE
            wait(1)
            soonest(1) = STATE
            soonest(0) = STATE
            soonest(2) = STATE
            soonest(8) = BEYOND

            # the fewest minutes of any WAY, also if it leaves less, and comes later in their order
            'chapel 0 1 long 5; chapel 1 7 long 5; ants 0 7 long 7; street 0 7 long 1'
            text() = 4
            most(7) = 1000
            soonest(7) = 9
            change(2, 3, 9)
            soonest(7) = 10
            """);
    }

    private static void ways() {
        Edges.check("ways", """
            # CORNERS 0 to 7
            street(0, 0, 7, 1)
            ways(-1) = BEYOND
            ways(0) = 1
            ways(7) = 1
            ways(8) = BEYOND
            ways(MIN) = BEYOND
            ways(MAX) = BEYOND

            # her own: 1, though no STREET goes there; none: 0, which is no finding
            ways(0) = 1
            ways(7) = 0
            status(-1) = 0

            # at any MINUTE
            street(0, 0, 7, 1)
            16 x wait(60)
            wait(39) = 999
            ways(7) = 1
            ways(0) = 1

            # STREETS between the same two are one WAY
            14 x street(0, 0, 1, 1)
            ways(1) = 1

            # unlike CORNERS: none goes by where she is
            'chapel 0 1; chapel 0 2; chapel 1 3; chapel 2 3'
            text() = 4
            ways(3) = 2
            carry(1)
            ways(2) = 2
            ways(0) = 2
            ways(1) = 1

            # a ROUND on the WAY is none
            'street 0 1 long 1; street 1 5 long 1'
            text() = 2
            rounds() = 1
            ways(5) = 1
            most(5) = 1000 - 12
            soonest(5) = 2
            ways(1) = 1
            """);
    }

    private static void reach() {
        Edges.check("reach", """
            # hers, too, though no STREET goes there
            reach() = 1
            street(3, 1, 2, 5)
            reach() = 1

            # as far as seven STREETS
            'chapel 6 7; chapel 5 6; chapel 4 5; chapel 3 4; chapel 2 3; chapel 1 2; chapel 0 1'
            text() = 7
            reach() = 255
            carry(1)
            reach() = 255

            # at the last MINUTE, without a grain
            'chapel 0 7; chapel 1 2'
            text() = 2
            16 x wait(60)
            wait(39) = 999
            grains(0, 0)
            grains(1, 0)
            grains(2, 0)
            grains(3, 0)
            reach() = 129
            """);
    }
}
