/** The boundary cases of promises 10 to 15, sentence by sentence. */
public final class SaintEdgesTest {

    public static void main(String[] args) {
        grains();
        now();
        made();
        carry();
        carryAcrossSpells();
        carryWhatSheHas();
        faces();
        waits();
        day();
        Check.finish();
    }

    private static void grains() {
        Edges.check("grains", """
            # PARTS 0 to 3
            grains(-1, 1) = BEYOND
            grains(0, 1) = 100
            grains(3, 1) = 500
            grains(4, 1) = BEYOND
            grains(MIN, 1) = BEYOND
            grains(MAX, 1) = BEYOND

            # GRAINS 0 to 9999
            grains(1, -1) = BEYOND
            grains(1, 0) = 200
            grains(1, 9999) = 0
            grains(1, 10000) = BEYOND
            grains(1, MIN) = BEYOND
            grains(1, MAX) = BEYOND
            now(1) = 9999

            # a year can make them more than one can tell them
            grains(0, 9999)
            grains(1, 9999)
            grains(2, 9999)
            grains(3, 9999)
            now(4) = 39996
            year() = 39996
            now(3) = 19999
            grains(3, 19999) = BEYOND
            grains(3, 9999) = 19999
            """);
    }

    private static void now() {
        Edges.check("now", """
            # what 0 to 9
            now(-1) = BEYOND
            now(0) = 100
            now(9) = 0
            now(10) = BEYOND
            now(MIN) = BEYOND
            now(MAX) = BEYOND

            # QUARTERS SEEN as a set: none, the least, all
            'street 0 1 long 1; street 1 2 long 1; street 2 3 long 1; street 3 0 long 1'
            text() = 4
            now(8) = 0
            carry(1)
            carry(2)
            carry(3)
            now(8) = 14
            carry(0)
            now(8) = 15
            """);
    }

    private static void made() {
        Edges.check("made", """
            # SUGAR (0) or SALT (1)
            made(-1) = BEYOND
            made(0) = 0
            made(1) = 0
            made(1) = 1
            made(2) = BEYOND
            made(MIN) = BEYOND
            made(MAX) = BEYOND
            now(5) = 1
            """);
    }

    private static void carry() {
        Edges.check("carry", """
            # CORNERS 0 to 7
            street(3, 0, 7, 5)
            carry(-1) = BEYOND
            carry(8) = BEYOND
            carry(MIN) = BEYOND
            carry(MAX) = BEYOND
            carry(7) = 0
            now(6) = 7
            carry(0) = 0
            now(6) = 0

            # NONE: no STREET goes there (nor to where she is)
            'chapel 0 1; chapel 1 2'
            text() = 2
            carry(2) = NONE
            carry(0) = NONE
            carry(7) = NONE
            carry(1) = 0
            carry(1) = NONE

            # STATE: MINUTE would be above 999
            street(0, 0, 1, 5)
            16 x wait(60)
            wait(34) = 994
            carry(1) = 30
            now(7) = 999
            carry(0) = STATE
            now(6) = 1

            # the first MINUTE that is too late
            street(0, 0, 1, 5)
            16 x wait(60)
            wait(35) = 995
            carry(1) = STATE

            # what it TAKES counts, not how LONG it is
            'crowded 0 1 long 5; steep 0 2 long 5'
            text() = 2
            16 x wait(60)
            wait(32) = 992
            image()
            carry(1) = 56
            now(7) = 999
            undo() = 992
            carry(2) = 21
            now(7) = 999
            undo() = 992
            wait(1) = 993
            carry(1) = STATE
            carry(2) = STATE

            # BEYOND is asked ahead of STATE, and so is NONE
            street(0, 0, 1, 5)
            16 x wait(60)
            wait(39) = 999
            carry(8) = BEYOND
            carry(2) = NONE
            carry(0) = NONE
            carry(1) = STATE
            """);
    }

    private static void carryAcrossSpells() {
        Edges.check("carry by the SPELL of MINUTE", """
            # spell i is minutes 20 i to 20 i + 19
            'street 0 1 long 2; spell 0 sun 1; spell 1 sun 2; spell 2 sun 4'
            text() = 4
            image()
            wait(18)
            carry(1) = 4
            undo()
            wait(19)
            carry(1) = 2 + 4
            undo()
            wait(20)
            carry(1) = 8
            undo()
            wait(38)
            carry(1) = 8
            undo()
            wait(39)
            carry(1) = 4 + 8

            # over three SPELLS
            'steep 0 1 long 20; spell 0 sun 0 rain 1; spell 1 sun 0 rain 2; spell 2 sun 0 rain 3'
            text() = 4
            wait(15)
            carry(1) = 30 + 240 + 90
            now(7) = 45

            # spell 11 all behind, too
            'street 0 1 long 2; spell 10 sun 1; spell 11 sun 2'
            text() = 3
            3 x wait(60)
            wait(38) = 218
            image()
            carry(1) = 4
            undo()
            wait(1)
            carry(1) = 2 + 4
            undo()
            wait(2)
            carry(1) = 8
            undo()
            wait(21) = 239
            carry(1) = 8
            12 x wait(60) = 961
            wait(36) = 997
            carry(0) = 8
            now(7) = 999
            """);
    }

    private static void carryWhatSheHas() {
        Edges.check("carry takes what she has", """
            # off HALO, what it hasn't off ARMS, then FACE, then BODY: just all of a PART
            street(0, 0, 1, 1)
            grains(0, 6)
            grains(1, 6)
            grains(2, 6)
            grains(3, 6)
            carry(1) = 6
            now(0) = 0
            now(1) = 6
            carry(0) = 6
            now(1) = 0
            now(2) = 6
            carry(1) = 6
            now(2) = 0
            now(3) = 6
            carry(0) = 6
            now(4) = 0
            now(9) = 24

            # one grain more than a PART has
            street(0, 0, 1, 1)
            grains(0, 5)
            carry(1) = 6
            now(0) = 0
            now(1) = 199

            # all four PARTS by one minute
            street(0, 0, 1, 1)
            grains(0, 1)
            grains(1, 1)
            grains(2, 1)
            grains(3, 4)
            carry(1) = 6
            now(0) = 0
            now(1) = 0
            now(2) = 0
            now(3) = 1
            now(8) = 0

            # what none has isn't lost: MOLTEN counts what is
            street(0, 0, 1, 1)
            grains(0, 0)
            grains(1, 0)
            grains(2, 0)
            grains(3, 5)
            carry(1) = 5
            now(9) = 5
            carry(0) = 0
            now(9) = 5
            now(4) = 0
            now(6) = 0
            now(7) = 2
            """);
    }

    private static void faces() {
        Edges.check("carry shows her FACE", """
            # SEEN if FACE has GRAINS: one is enough
            street(0, 0, 1, 1)
            grains(0, 0)
            grains(1, 0)
            grains(2, 7)
            carry(1) = 6
            now(2) = 1
            now(8) = 2

            # none is not, though BODY has some
            street(0, 0, 1, 1)
            grains(0, 0)
            grains(1, 0)
            grains(2, 6)
            carry(1) = 6
            now(2) = 0
            now(3) = 500
            now(8) = 0

            # the QUARTER of the CORNER that she comes to, as it is by then
            street(3, 0, 7, 1)
            quarter(7, 0)
            carry(7)
            now(8) = 1
            quarter(0, 3)
            carry(0)
            now(8) = 9
            """);
    }

    private static void waits() {
        Edges.check("wait", """
            # n 1 to 60
            wait(0) = BEYOND
            wait(1) = 1
            wait(60) = 61
            wait(61) = BEYOND
            wait(-1) = BEYOND
            wait(MIN) = BEYOND
            wait(MAX) = BEYOND
            now(7) = 61

            # STATE: MINUTE would be above 999
            16 x wait(60) = 960
            wait(40) = STATE
            wait(39) = 999
            wait(1) = STATE
            wait(60) = STATE

            # BEYOND is asked ahead of STATE
            16 x wait(60)
            wait(39) = 999
            wait(0) = BEYOND
            wait(61) = BEYOND
            wait(MAX) = BEYOND

            # none melts
            'street 0 1; spell 0 sun 9 rain 9; spell 1 sun 9 rain 9'
            text() = 3
            wait(60) = 60
            now(4) = 1000
            now(8) = 0
            """);
    }

    private static void day() {
        Edges.check("day", """
            # how many QUARTERS had SEEN her: none
            day() = 0
            wait(60)
            day() = 0
            now(7) = 0

            # all four, and none again
            'street 0 1 long 1; street 1 2 long 1; street 2 3 long 1; street 3 0 long 1'
            text() = 4
            carry(1)
            carry(2)
            carry(3)
            carry(0)
            carry(3)
            day() = 4
            now(6) = 0
            now(7) = 0
            now(8) = 0
            now(9) = 30
            now(4) = 970
            day() = 0

            # from the last MINUTE
            street(3, 0, 1, 5)
            16 x wait(60)
            wait(34)
            carry(1)
            now(7) = 999
            day() = 1
            now(7) = 0
            carry(1) = 0
            """);
    }
}
