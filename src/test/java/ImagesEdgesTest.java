/** The boundary cases of promises 45 to 49, sentence by sentence. */
public final class ImagesEdgesTest {

    public static void main(String[] args) {
        image();
        undo();
        tear();
        count();
        status();
        Check.finish();
    }

    private static void image() {
        Edges.check("image", """
            # of a new object; again and again
            image() = 1
            image() = 1
            undo() = 0
            now(4) = 1000

            # all is kept: the town
            'ants 0 7 long 20 umbrella; spell 11 sun 9 rain 9; quarter 7 0'
            text() = 3
            image() = 1
            change(0, 0, 0)
            change(0, 3, 1)
            change(0, 4, 0)
            street(0, 1, 2, 3)
            spell(11, 0, 0)
            spell(11, 1, 0)
            quarter(7, 3)
            undo() = 0
            count(0) = 1
            of(0, 0) = 6
            of(0, 1) = 0
            of(0, 2) = 7
            of(0, 3) = 20
            of(0, 4) = 1
            spell(11, 0, 3) = 9
            spell(11, 1, 0) = 9
            quarter(7, 1) = 0

            # the saint, MOLTEN and SEEN too
            'street 0 7 long 1; salt'
            text() = 2
            carry(7)
            image() = 1
            grains(0, 1)
            grains(3, 9999)
            made(0)
            carry(0)
            wait(60)
            year()
            undo() = 1
            now(0) = 97
            now(1) = 200
            now(2) = 200
            now(3) = 500
            now(5) = 1
            now(6) = 7
            now(7) = 1
            now(8) = 8
            now(9) = 3

            # SPOTS and z
            street(0, 0, 1, 5)
            hold(0, 0)
            seed(MIN)
            image() = 1
            hold(0, -1)
            hold(9, 0)
            seed(7)
            undo() = 0
            as(0, 0) = 0
            as(9, 0) = MISSING
            count(6) = MIN

            # all but THE TAPE and SHEETS
            'sal'
            sheet(0, 8, 1)
            sheet(1, 8, 1)
            image() = 1
            't'
            sheet(0, 8, 2)
            write(0, 0, 7)
            sheet(1, 0, 0)
            sheet(2, 8, 3)
            undo() = 0
            count(5) = 4
            text() = 1
            load(0) = 2
            spell(0, 0, 3) = 7
            load(1) = MISSING
            load(2) = 3

            # a TAPE that is empty by then stays so
            'salt'
            image() = 1
            wipe() = 4
            undo() = 0
            count(5) = 0
            """);
    }

    private static void undo() {
        Edges.check("undo", """
            # NONE: nothing is kept
            wait(5)
            undo() = NONE
            now(7) = 5

            # what was kept latest
            wait(1)
            image()
            wait(1)
            image()
            wait(1)
            undo() = 2
            # (which stays)
            undo() = 2
            wait(60)
            undo() = 2

            # MINUTE, the last one too
            16 x wait(60)
            wait(39)
            image()
            day()
            undo() = 999

            # what is changed behind an undo() does not change what is kept
            street(0, 0, 1, 5)
            image()
            undo()
            change(0, 3, 9)
            grains(0, 0)
            quarter(0, 3)
            spell(0, 0, 9)
            hold(0, 0)
            undo() = 0
            of(0, 3) = 5
            now(0) = 100
            quarter(0, 0) = 0
            spell(0, 0, 3) = 3
            count(7) = 0

            # a full town, and an empty one
            image()
            14 x street(0, 0, 1, 5)
            hold(9, 13)
            undo() = 0
            count(0) = 0
            count(7) = 0
            of(0, 0) = BEYOND
            by(0, 1) = NONE
            14 x street(6, 0, 1, 5) = 13
            image()
            undo() = 0
            count(0) = 14
            street(0, 0, 1, 5) = FULL
            """);
    }

    private static void tear() {
        Edges.check("tear", """
            # 1 if something was, else 0
            tear() = 0
            image()
            tear() = 1
            tear() = 0
            undo() = NONE

            # of several none is left
            image()
            wait(1)
            image()
            tear() = 1
            tear() = 0
            undo() = NONE
            now(7) = 1

            # undo() leaves it
            image()
            undo() = 0
            tear() = 1
            image() = 1
            undo() = 0
            """);
    }

    private static void count() {
        Edges.check("count", """
            # what 0 to 7
            count(-1) = BEYOND
            count(0) = 0
            count(7) = 0
            count(8) = BEYOND
            count(MIN) = BEYOND
            count(MAX) = BEYOND

            # STREETS, minutes, UMBRELLAS of a full town
            14 x street(4, 0, 1, 20)
            change(0, 4, 1)
            change(13, 4, 1)
            count(0) = 14
            count(1) = 420
            count(2) = 2

            # SUN and RAIN of the first and the last SPELL
            spell(0, 0, 9)
            spell(11, 0, 0)
            spell(0, 1, 9)
            spell(11, 1, 8)
            count(3) = 39
            count(4) = 17

            # bytes of a full TAPE
            30 x feed(0, 4)
            count(5) = 120

            # SPOTS that hold something: all ten
            street(0, 0, 1, 5)
            hold(0, 0)
            hold(1, 0)
            hold(2, 0)
            hold(3, 0)
            hold(4, 0)
            hold(5, 0)
            hold(6, 0)
            hold(7, 0)
            hold(8, 0)
            count(7) = 9
            hold(9, 0)
            count(7) = 10
            hold(0, -1)
            count(7) = 9

            # any STREET is something, the last of fourteen too
            14 x street(0, 0, 1, 5)
            hold(0, 13)
            hold(1, 1)
            count(7) = 2
            hold(1, 13)
            count(7) = 2
            hold(1, -1)
            count(7) = 1
            """);
    }

    private static void status() {
        Edges.check("status", """
            # which -1 to 6
            status(-2) = BEYOND
            status(-1) = 1
            status(7) = BEYOND
            status(MIN) = BEYOND
            status(MAX) = BEYOND
            status(0) = 4
            status(6) = 0
            status(-1) = 4

            # BEYOND (counted from then on): another one
            status(7) = BEYOND
            status(0) = 1
            status(8) = BEYOND
            status(0) = 2

            # each by its kind
            street(0, 0, 1, 5)
            hold(0, 0)
            now(10) = BEYOND
            30 x feed(0, 4)
            feed(0, 1) = FULL
            as(0, 1) = KIND
            undo() = NONE
            16 x wait(60)
            wait(60) = STATE
            load(0) = MISSING
            sheet(0, 8, -1) = SIZE
            status(-1) = 7
            status(0) = 1
            status(1) = 1
            status(2) = 1
            status(3) = 1
            status(4) = 1
            status(5) = 1
            status(6) = 1

            # ever (undo() takes none back)
            image()
            now(10) = BEYOND
            undo() = 0
            status(0) = 1
            tear()
            day()
            year()
            status(-1) = 1

            # what looks like a finding and is none: z, a FAULT, an empty answer
            seed(-1000001)
            count(6) = -1000001
            seed(-1000002) = -1000001
            text() = -1 - 0
            rounds() = 0
            ways(7) = 0
            tear() = 0
            status(-1) = 0
            """);
    }
}
