/** The boundary cases of promises 1 to 9, sentence by sentence. */
public final class TownEdgesTest {

    public static void main(String[] args) {
        newObject();
        street();
        of();
        change();
        quarter();
        spell();
        loss();
        next();
        by();
        Check.finish();
    }

    private static void newObject() {
        Edges.check("new", """
            # a QUARTER is at first the rest of its CORNER's number by 4
            quarter(0, 3) = 0
            quarter(3, 0) = 3
            quarter(4, 3) = 0
            quarter(7, 0) = 3

            # SUN 3, RAIN 0 at first
            spell(0, 0, 0) = 3
            spell(11, 0, 0) = 3
            spell(0, 1, 1) = 0
            spell(11, 1, 1) = 0

            # GRAINS 100, 200, 200, 500; of SUGAR, at CORNER 0, MINUTE 0, none SEEN, none MOLTEN
            now(0) = 100
            now(1) = 200
            now(2) = 200
            now(3) = 500
            now(4) = 1000
            now(5) = 0
            now(6) = 0
            now(7) = 0
            now(8) = 0
            now(9) = 0

            # no STREETS
            count(0) = 0
            count(1) = 0
            count(2) = 0
            of(0, 0) = BEYOND
            next(0) = 0
            reach() = 1

            # THE TAPE is empty
            count(5) = 0
            wipe() = 0
            text() = -1

            # no image is kept
            undo() = NONE
            tear() = 0

            # SPOTS hold nothing, SHEETS are MISSING, z is 1, no act answered a finding
            status(-1) = 0
            status(6) = 0
            count(7) = 0
            as(0, 0) = MISSING
            as(9, 0) = MISSING
            load(0) = MISSING
            load(3) = MISSING
            seed(0) = 1
            """);
    }

    private static void street() {
        Edges.check("street", """
            # KINDS 0 to 6
            street(-1, 0, 1, 5) = BEYOND
            street(0, 0, 1, 5) = 0
            street(6, 0, 1, 5) = 1
            street(7, 0, 1, 5) = BEYOND
            street(MIN, 0, 1, 5) = BEYOND
            street(MAX, 0, 1, 5) = BEYOND
            count(0) = 2

            # CORNERS 0 to 7: the one
            street(0, -1, 1, 5) = BEYOND
            street(0, 0, 1, 5) = 0
            street(0, 7, 1, 5) = 1
            street(0, 8, 1, 5) = BEYOND
            street(0, MIN, 1, 5) = BEYOND
            street(0, MAX, 1, 5) = BEYOND

            # CORNERS 0 to 7: the other
            street(0, 1, -1, 5) = BEYOND
            street(0, 1, 0, 5) = 0
            street(0, 1, 7, 5) = 1
            street(0, 1, 8, 5) = BEYOND
            street(0, 1, MIN, 5) = BEYOND
            street(0, 1, MAX, 5) = BEYOND

            # LONG 1 to 20
            street(0, 0, 1, 0) = BEYOND
            street(0, 0, 1, 1) = 0
            street(0, 0, 1, 20) = 1
            street(0, 0, 1, 21) = BEYOND
            street(0, 0, 1, MIN) = BEYOND
            street(0, 0, 1, MAX) = BEYOND
            of(0, 3) = 1
            of(1, 3) = 20

            # BEYOND: also one and the same CORNER
            street(0, 0, 0, 5) = BEYOND
            street(0, 7, 7, 5) = BEYOND
            street(0, 7, 6, 5) = 0
            street(0, 0, 1, 5) = 1

            # FULL: at most 14
            13 x street(0, 0, 1, 5) = 12
            street(6, 6, 7, 20) = 13
            street(6, 6, 7, 20) = FULL
            count(0) = 14
            of(13, 0) = 6
            of(14, 0) = BEYOND

            # BEYOND is asked ahead of FULL
            14 x street(0, 0, 1, 5)
            street(7, 0, 1, 5) = BEYOND
            street(0, 8, 1, 5) = BEYOND
            street(0, 1, 8, 5) = BEYOND
            street(0, 1, 1, 5) = BEYOND
            street(0, 0, 1, 21) = BEYOND
            street(0, 0, 1, 5) = FULL

            # a town that is full no more takes STREETS again
            13 x street(0, 0, 1, 5)
            image()
            street(0, 0, 1, 5) = 13
            street(0, 0, 1, 5) = FULL
            undo()
            street(3, 0, 1, 5) = 13
            street(0, 0, 1, 5) = FULL

            # not under an UMBRELLA, whatever was at its number
            image()
            street(6, 2, 3, 9) = 0
            change(0, 4, 1)
            undo()
            street(1, 5, 4, 2) = 0
            of(0, 0) = 1
            of(0, 1) = 4
            of(0, 2) = 5
            of(0, 3) = 2
            of(0, 4) = 0
            """);
    }

    private static void of() {
        Edges.check("of", """
            # a STREET that there is
            of(0, 0) = BEYOND
            'street 0 1; ants 2 1'
            text() = 2
            of(-1, 0) = BEYOND
            of(0, 0) = 0
            of(1, 0) = 6
            of(2, 0) = BEYOND
            of(13, 0) = BEYOND
            of(MIN, 0) = BEYOND
            of(MAX, 0) = BEYOND

            # what 0 to 6
            street(6, 7, 2, 9)
            of(0, -1) = BEYOND
            of(0, 0) = 6
            of(0, 6) = 5
            of(0, 7) = BEYOND
            of(0, MIN) = BEYOND
            of(0, MAX) = BEYOND

            # its lesser, its greater CORNER, whichever was told first
            street(0, 7, 0, 9)
            street(0, 0, 7, 9)
            of(0, 1) = 0
            of(0, 2) = 7
            of(1, 1) = 0
            of(1, 2) = 7

            # STEEP TAKES half as much again (cut)
            'steep 0 1 long 1; steep 0 1 long 2; steep 0 1 long 3; steep 0 1 long 19; steep 0 1 long 20'
            text() = 5
            of(0, 5) = 1
            of(1, 5) = 3
            of(2, 5) = 4
            of(3, 5) = 28
            of(4, 5) = 30

            # CROWDED TAKES 2 more, ANTS as CROWDED; the others LONG
            'crowded 0 1 long 1; ants 0 1 long 20; windy 0 1 long 20; shaded 0 1 long 20; chapel 0 1 long 20'
            text() = 5
            of(0, 5) = 3
            of(1, 5) = 22
            of(2, 5) = 20
            of(3, 5) = 20
            of(4, 5) = 20

            # LICKS: 0, CROWDED 2, ANTS 3 more; the street's own, also if she is of SALT
            'street 0 1; shaded 0 1; windy 0 1; chapel 0 1; steep 0 1; crowded 0 1; ants 0 1; salt'
            text() = 8
            of(0, 6) = 0
            of(1, 6) = 0
            of(2, 6) = 0
            of(3, 6) = 0
            of(4, 6) = 0
            of(5, 6) = 2
            of(6, 6) = 5
            """);
    }

    private static void change() {
        Edges.check("change", """
            # KIND 0 to 6
            street(2, 0, 1, 5)
            change(0, 0, -1) = BEYOND
            change(0, 0, 0) = 2
            change(0, 0, 6) = 0
            change(0, 0, 7) = BEYOND
            change(0, 0, MIN) = BEYOND
            change(0, 0, MAX) = BEYOND
            of(0, 0) = 6

            # LONG 1 to 20
            street(2, 0, 1, 5)
            change(0, 3, 0) = BEYOND
            change(0, 3, 1) = 5
            change(0, 3, 20) = 1
            change(0, 3, 21) = BEYOND
            change(0, 3, MIN) = BEYOND
            change(0, 3, MAX) = BEYOND
            of(0, 3) = 20

            # UMBRELLA 0 or 1
            street(2, 0, 1, 5)
            change(0, 4, -1) = BEYOND
            change(0, 4, 1) = 0
            change(0, 4, 0) = 1
            change(0, 4, 0) = 0
            change(0, 4, 2) = BEYOND
            change(0, 4, MIN) = BEYOND
            change(0, 4, MAX) = BEYOND

            # what 0, 3 or 4 alone
            street(2, 0, 1, 5)
            change(0, -1, 1) = BEYOND
            change(0, 1, 1) = BEYOND
            change(0, 2, 1) = BEYOND
            change(0, 5, 1) = BEYOND
            change(0, 6, 1) = BEYOND
            change(0, MIN, 1) = BEYOND
            change(0, MAX, 1) = BEYOND

            # a STREET that there is
            change(0, 0, 0) = BEYOND
            street(2, 0, 1, 5)
            street(3, 0, 1, 5)
            change(-1, 0, 0) = BEYOND
            change(0, 0, 1) = 2
            change(1, 0, 1) = 3
            change(2, 0, 0) = BEYOND
            change(MIN, 0, 0) = BEYOND
            change(MAX, 0, 0) = BEYOND
            """);
    }

    private static void quarter() {
        Edges.check("quarter", """
            # CORNERS 0 to 7
            quarter(-1, 1) = BEYOND
            quarter(0, 1) = 0
            quarter(7, 1) = 3
            quarter(8, 1) = BEYOND
            quarter(MIN, 1) = BEYOND
            quarter(MAX, 1) = BEYOND

            # QUARTERS 0 to 3
            quarter(2, -1) = BEYOND
            quarter(2, 0) = 2
            quarter(2, 3) = 0
            quarter(2, 4) = BEYOND
            quarter(2, MIN) = BEYOND
            quarter(2, MAX) = BEYOND
            quarter(2, 2) = 3
            """);
    }

    private static void spell() {
        Edges.check("spell", """
            # SPELLS 0 to 11
            spell(-1, 0, 1) = BEYOND
            spell(0, 0, 1) = 3
            spell(11, 0, 1) = 3
            spell(12, 0, 1) = BEYOND
            spell(MIN, 0, 1) = BEYOND
            spell(MAX, 0, 1) = BEYOND

            # what 0 or 1
            spell(5, -1, 1) = BEYOND
            spell(5, 0, 1) = 3
            spell(5, 1, 1) = 0
            spell(5, 2, 1) = BEYOND
            spell(5, MIN, 1) = BEYOND
            spell(5, MAX, 1) = BEYOND

            # SUN 0 to 9
            spell(5, 0, -1) = BEYOND
            spell(5, 0, 0) = 3
            spell(5, 0, 9) = 0
            spell(5, 0, 10) = BEYOND
            spell(5, 0, MIN) = BEYOND
            spell(5, 0, MAX) = BEYOND
            count(3) = 42

            # RAIN 0 to 9
            spell(5, 1, -1) = BEYOND
            spell(5, 1, 9) = 0
            spell(5, 1, 10) = BEYOND
            spell(5, 1, MIN) = BEYOND
            spell(5, 1, MAX) = BEYOND
            count(4) = 9
            spell(5, 1, 0) = 9
            count(4) = 0
            """);
    }

    private static void loss() {
        Edges.check("loss", """
            # a STREET that there is
            loss(0, 0) = BEYOND
            street(0, 0, 1, 5)
            street(3, 0, 1, 5)
            loss(-1, 0) = BEYOND
            loss(0, 0) = 6
            loss(1, 0) = 0
            loss(2, 0) = BEYOND
            loss(MIN, 0) = BEYOND
            loss(MAX, 0) = BEYOND

            # SPELLS 0 to 11
            street(0, 0, 1, 5)
            spell(0, 0, 1)
            spell(11, 0, 2)
            loss(0, -1) = BEYOND
            loss(0, 0) = 2
            loss(0, 11) = 4
            loss(0, 12) = BEYOND
            loss(0, MIN) = BEYOND
            loss(0, MAX) = BEYOND

            # WINDY MELTS as a STREET, less 3 (0 at least); STEEP as WINDY
            'windy 0 1; steep 0 1; spell 0 sun 0; spell 1 sun 1; spell 2 sun 2; spell 3 sun 9'
            text() = 6
            loss(0, 0) = 0
            loss(0, 1) = 0
            loss(0, 2) = 1
            loss(0, 3) = 15
            loss(1, 0) = 0
            loss(1, 1) = 0
            loss(1, 2) = 1
            loss(1, 3) = 15

            # of SALT: MELTS BY SUN halved (cut)
            'salt; shaded 0 1; windy 0 1; street 0 1; spell 1 sun 1; spell 2 sun 2; spell 9 sun 9'
            text() = 7
            loss(0, 1) = 0
            loss(0, 2) = 1
            loss(0, 9) = 4
            loss(1, 2) = 0
            loss(1, 9) = 7
            loss(2, 1) = 1
            loss(2, 9) = 9

            # the most SUN and RAIN, by KINDS
            'street 0 1; shaded 0 1; windy 0 1; chapel 0 1; steep 0 1; crowded 0 1; ants 0 1; spell 0 sun 9 rain 9'
            text() = 8
            loss(0, 0) = 63
            loss(1, 0) = 54
            loss(2, 0) = 69
            loss(3, 0) = 0
            loss(4, 0) = 69
            loss(5, 0) = 65
            loss(6, 0) = 68
            made(1)
            loss(0, 0) = 99
            loss(1, 0) = 94
            loss(2, 0) = 115
            loss(3, 0) = 0
            loss(4, 0) = 115
            loss(5, 0) = 99
            loss(6, 0) = 99

            # WETS is 0 under an UMBRELLA, LICKS is not
            'street 0 1 umbrella; windy 0 1 umbrella; ants 0 1 umbrella; spell 0 sun 0 rain 9'
            text() = 4
            loss(0, 0) = 0
            loss(1, 0) = 0
            loss(2, 0) = 5
            made(1)
            loss(0, 0) = 0
            loss(1, 0) = 0
            loss(2, 0) = 0
            """);
    }

    private static void next() {
        Edges.check("next", """
            # CORNERS 0 to 7
            street(0, 0, 7, 5)
            next(-1) = BEYOND
            next(0) = 128
            next(7) = 1
            next(8) = BEYOND
            next(MIN) = BEYOND
            next(MAX) = BEYOND

            # none, and all there can be
            street(0, 0, 1, 5)
            street(0, 2, 0, 5)
            street(0, 0, 3, 5)
            street(0, 4, 0, 5)
            street(0, 0, 5, 5)
            street(0, 6, 0, 5)
            next(7) = 0
            street(0, 0, 7, 5)
            next(0) = 254
            next(7) = 1
            """);
    }

    private static void by() {
        Edges.check("by", """
            # CORNERS 0 to 7
            street(0, 0, 7, 5)
            by(-1, 7) = BEYOND
            by(0, 7) = 0
            by(7, 0) = 0
            by(8, 7) = BEYOND
            by(7, -1) = BEYOND
            by(7, 8) = BEYOND
            by(MIN, 7) = BEYOND
            by(MAX, 7) = BEYOND
            by(7, MIN) = BEYOND
            by(7, MAX) = BEYOND

            # BEYOND: also one and the same
            street(0, 0, 7, 5)
            by(0, 0) = BEYOND
            by(7, 7) = BEYOND
            by(3, 3) = BEYOND

            # NONE, also where one comes by two STREETS
            street(0, 0, 1, 5)
            street(0, 1, 2, 5)
            by(0, 2) = NONE
            by(2, 0) = NONE
            by(6, 7) = NONE

            # of several STREETS the one with the least number
            street(0, 1, 2, 5)
            12 x street(0, 0, 1, 5)
            street(3, 1, 2, 1) = 13
            by(1, 2) = 0
            by(2, 1) = 0
            by(1, 0) = 1
            """);
    }
}
