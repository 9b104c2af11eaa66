/** The boundary cases of promises 21 to 29, sentence by sentence. */
public final class RoundsEdgesTest {

    public static void main(String[] args) {
        late();
        round();
        roundFaces();
        ith();
        rounds();
        start();
        better();
        umbrella();
        shade();
        needed();
        kindFor();
        Check.finish();
    }

    private static void late() {
        Edges.check("round() and its like, late", """
            # STATE: MINUTE is above 700
            street(3, 0, 1, 5)
            11 x wait(60)
            wait(40) = 700
            round() = 1000
            ith(0) = 1
            rounds() = 1
            start() = 0
            better() = 0
            umbrella() = 0
            shade() = 0
            needed() = 1
            wait(1) = 701
            round() = STATE
            ith(0) = STATE
            rounds() = STATE
            start() = STATE
            better() = STATE
            umbrella() = STATE
            shade() = STATE
            needed() = STATE

            # STATE is asked ahead of NONE
            11 x wait(60)
            wait(41) = 701
            round() = STATE
            ith(0) = STATE
            rounds() = STATE
            start() = STATE
            better() = STATE
            umbrella() = STATE
            shade() = STATE
            needed() = STATE

            # BEYOND is asked ahead of STATE
            16 x wait(60)
            wait(39) = 999
            ith(-1) = BEYOND
            ith(7) = BEYOND
            ith(6) = STATE

            # the longest ROUND from the last MINUTE that is let in
            'steep 0 1 long 20; steep 1 2 long 20; steep 2 3 long 20; steep 3 4 long 20; steep 4 5 long 20'
            text() = 5
            'steep 5 6 long 20; steep 6 7 long 20; steep 7 0 long 20'
            text() = 3
            grains(2, 9999)
            11 x wait(60)
            wait(40) = 700
            round() = 10799 - 720
            ith(6) = 7
            rounds() = 2
            start() = 0
            """);
    }

    private static void round() {
        Edges.check("round", """
            # NONE: there is no STREET, or none from where she is
            round() = NONE
            street(3, 1, 2, 5)
            round() = NONE

            # there and back by one STREET
            street(0, 0, 4, 1)
            round() = 1000 - 12

            # every QUARTER that CORNERS of STREETS have, also of those far off
            'chapel 0 4; chapel 5 1'
            text() = 2
            round() = NONE
            quarter(5, 0)
            round() = NONE
            quarter(1, 0)
            round() = 1000

            # QUARTERS of CORNERS that no STREET goes to don't count
            street(3, 0, 4, 5)
            quarter(4, 3)
            quarter(3, 1)
            round() = 1000
            """);
    }

    private static void roundFaces() {
        Edges.check("round: her FACE", """
            # home, too, must see her FACE: a grain is enough, none is not
            street(0, 0, 1, 1)
            grains(0, 0)
            grains(1, 0)
            grains(2, 12)
            round() = NONE
            grains(2, 13)
            round() = 501

            # where all are of one QUARTER, the first CORNER will do
            street(0, 0, 1, 1)
            quarter(0, 1)
            grains(0, 0)
            grains(1, 0)
            grains(2, 6)
            round() = NONE
            grains(2, 7)
            round() = 507 - 12

            # HALO and ARMS melt ahead of FACE: home sees it as long as a grain of it is there
            street(0, 0, 1, 1)
            grains(0, 5)
            grains(1, 4)
            grains(2, 3)
            grains(3, 0)
            round() = NONE
            grains(2, 4)
            round() = 1
            grains(0, 4)
            round() = NONE
            grains(1, 5)
            round() = 1

            # a FACE without a grain is none, whatever HALO and ARMS have
            street(3, 0, 1, 1)
            grains(2, 0)
            round() = NONE
            grains(2, 1)
            round() = 801

            # those SEEN ahead of it count; then nothing LEFT is a number of GRAINS, too
            street(0, 0, 1, 1)
            carry(1)
            carry(0)
            grains(0, 0)
            grains(1, 0)
            grains(2, 0)
            grains(3, 13)
            round() = 1
            grains(3, 12)
            round() = 0
            grains(3, 0)
            round() = 0
            ith(0) = 1
            rounds() = 1
            start() = 0
            better() = 0
            umbrella() = 0
            shade() = 0
            needed() = 1
            day() = 2
            round() = NONE

            # one that is SEEN ahead, one that is not
            'chapel 0 1; chapel 0 2'
            text() = 2
            round() = NONE
            carry(1)
            carry(0)
            round() = 1000
            ith(0) = 2

            # of several STREETS between two the one with the least number, there and back
            street(0, 0, 1, 1)
            street(3, 0, 1, 1)
            round() = 1000 - 12

            # back to where it began, which need not be HOME
            'chapel 0 1; street 1 2 long 1'
            text() = 2
            quarter(0, 1)
            carry(1)
            round() = 1000 - 12
            """);
    }

    private static void ith() {
        Edges.check("ith", """
            # i 0 to 6
            'chapel 0 1; chapel 1 2; chapel 2 3; chapel 3 4; chapel 4 5; chapel 5 6; chapel 6 7; chapel 7 0'
            text() = 8
            ith(-1) = BEYOND
            ith(0) = 1
            ith(5) = 6
            ith(6) = 7
            ith(7) = BEYOND
            ith(MIN) = BEYOND
            ith(MAX) = BEYOND

            # NONE: also if it has not so many
            'chapel 0 1; chapel 1 2; chapel 2 0'
            text() = 3
            ith(0) = 1
            ith(1) = 2
            ith(2) = NONE
            ith(6) = NONE

            # there is no such ROUND
            ith(0) = NONE
            street(3, 0, 1, 5)
            street(3, 2, 3, 5)
            ith(0) = NONE
            ith(6) = NONE

            # there was one, and is none now
            'chapel 0 1; chapel 1 2; chapel 2 0'
            text() = 3
            ith(1) = 2
            rounds() = 2
            grains(2, 0)
            ith(0) = NONE
            ith(1) = NONE

            # the first such ROUND that leaves so much: a shorter one ahead of those that go on from it
            'chapel 0 1; chapel 1 2; chapel 2 0; quarter 1 0; quarter 2 0'
            text() = 5
            rounds() = 4
            ith(0) = 1
            ith(1) = NONE
            quarter(2, 2)
            rounds() = 3
            ith(0) = 1
            ith(1) = 2
            ith(2) = NONE

            # a later one that leaves a grain more is the one
            'street 0 1 long 2; street 0 5 long 2; spell 0 sun 1'
            text() = 3
            ith(0) = 1
            change(1, 3, 1)
            ith(0) = 5
            change(0, 3, 1)
            ith(0) = 1
            """);
    }

    private static void rounds() {
        Edges.check("rounds", """
            # none: 0, which is no finding
            rounds() = 0
            street(3, 1, 2, 5)
            rounds() = 0
            status(-1) = 0

            # such ROUNDS alone, in which all have SEEN her FACE
            'street 0 1 long 1; street 1 2 long 1; street 2 0 long 1'
            text() = 3
            rounds() = 2
            quarter(2, 1)
            rounds() = 4
            grains(0, 0)
            grains(1, 0)
            grains(2, 19)
            rounds() = 4
            grains(2, 18)
            rounds() = 2
            grains(2, 12)
            rounds() = 0

            # fourteen STREETS between the same two are one
            14 x street(3, 0, 1, 1)
            rounds() = 1
            """);
    }

    private static void start() {
        Edges.check("start", """
            # minutes 0 to 60: a spell that begins 60 minutes off is waited for
            street(0, 0, 1, 1)
            spell(3, 0, 0)
            start() = 60

            # one that begins later is not, but for what of it is in reach
            street(0, 0, 1, 1)
            spell(6, 0, 0)
            wait(58)
            start() = 0
            wait(1)
            start() = 60
            wait(1)
            start() = 60
            wait(1)
            start() = 59

            # of several the least
            street(0, 0, 1, 1)
            start() = 0
            spell(0, 0, 4)
            start() = 20
            spell(1, 0, 4)
            start() = 40
            spell(2, 0, 4)
            start() = 60
            spell(3, 0, 4)
            start() = 0

            # a later one that leaves less is not the one, nor one that leaves less than the first
            street(0, 0, 1, 1)
            spell(1, 0, 0)
            start() = 20
            wait(10)
            start() = 10
            wait(10)
            start() = 0
            wait(19)
            start() = 0

            # a ROUND that begins in one SPELL and ends in the next
            street(0, 0, 1, 1)
            spell(1, 0, 0)
            spell(2, 0, 0)
            wait(18)
            start() = 2
            wait(1) = 19
            start() = 1
            wait(1) = 20
            start() = 0

            # NONE: there is no ROUND by any
            start() = NONE
            street(0, 1, 2, 1)
            start() = NONE

            # a ROUND by the last minute alone
            street(0, 0, 1, 1)
            spell(3, 0, 0)
            grains(0, 0)
            grains(1, 0)
            grains(2, 6)
            round() = NONE
            start() = 60
            wait(1)
            start() = 59
            day()
            spell(3, 0, 3)
            start() = NONE

            # behind minute 220 all minutes are alike
            street(0, 0, 1, 1)
            spell(10, 0, 4)
            3 x wait(60)
            wait(39) = 219
            start() = 1
            wait(1) = 220
            start() = 0
            """);
    }

    private static void better() {
        Edges.check("better", """
            # as much of either: SUGAR, the least number
            street(3, 0, 1, 5)
            better() = 0
            made(1)
            better() = 0

            # a grain more of SALT, a grain more of SUGAR
            'street 0 1 long 1 umbrella; spell 0 sun 1 rain 1'
            text() = 2
            better() = 1
            change(0, 4, 0)
            better() = 0

            # NONE: there is no ROUND for either
            better() = NONE
            street(0, 1, 2, 5)
            better() = NONE

            # a ROUND for SALT alone
            street(0, 0, 1, 1)
            grains(0, 0)
            grains(1, 0)
            grains(2, 12)
            round() = NONE
            better() = 1
            grains(2, 7)
            better() = 1
            grains(2, 6)
            better() = NONE

            # a ROUND for SUGAR alone
            'street 0 1 long 1; spell 0 sun 0 rain 1'
            text() = 2
            made(1)
            grains(0, 0)
            grains(1, 0)
            grains(2, 11)
            grains(3, 0)
            round() = NONE
            better() = 0
            grains(2, 10)
            better() = NONE
            now(5) = 1
            """);
    }

    private static void umbrella() {
        Edges.check("umbrella", """
            # NONE: all have one, though there is a ROUND
            'street 0 1 long 1 umbrella; street 0 1 umbrella'
            text() = 2
            round() = 1000 - 12
            umbrella() = NONE
            change(1, 4, 0)
            umbrella() = 1
            change(0, 4, 0)
            umbrella() = 0

            # NONE: there is no STREET
            umbrella() = NONE

            # NONE: there is no ROUND with it
            'chapel 0 1; chapel 2 3'
            text() = 2
            umbrella() = NONE

            # a ROUND with it alone
            'street 0 1 long 1; spell 0 sun 0 rain 1'
            text() = 2
            grains(0, 0)
            grains(1, 0)
            grains(2, 10)
            round() = NONE
            umbrella() = 0
            grains(2, 1)
            umbrella() = 0
            grains(2, 0)
            umbrella() = NONE

            # with one, not with those of lesser numbers too; a later one that leaves less is not the one
            'street 0 1 long 1; street 1 2 long 2; street 2 0 long 1; spell 0 sun 0 rain 1'
            text() = 4
            umbrella() = 1
            of(0, 4) = 0
            of(1, 4) = 0
            count(2) = 0
            change(0, 3, 3)
            umbrella() = 0
            change(0, 4, 1)
            umbrella() = 1

            # of several the least, also where it does nothing
            14 x street(0, 0, 1, 1)
            umbrella() = 0
            change(0, 4, 1)
            umbrella() = 1

            # the last of fourteen
            12 x street(0, 0, 1, 1)
            'street 1 4 long 1; street 4 0 long 2'
            text() = 2
            quarter(4, 2)
            spell(0, 1, 1)
            umbrella() = 13
            """);
    }

    private static void shade() {
        Edges.check("shade", """
            # NONE: there is no STREET, there is no ROUND
            shade() = NONE
            street(0, 1, 2, 5)
            shade() = NONE

            # a ROUND by shade alone
            street(0, 0, 1, 1)
            grains(0, 0)
            grains(1, 0)
            grains(2, 12)
            round() = NONE
            shade() = 0
            grains(2, 7)
            shade() = 0
            grains(2, 6)
            shade() = NONE

            # a later one that leaves less is not the one, nor are those of lesser numbers shaded too
            'street 0 1 long 3; street 1 2 long 1; street 2 0 long 2'
            text() = 3
            shade() = 0
            of(0, 0) = 0
            change(0, 3, 1)
            change(1, 3, 2)
            change(2, 3, 1)
            shade() = 1

            # of several the least, also if all are SHADED
            'shaded 0 1; shaded 0 1'
            text() = 2
            shade() = 0

            # the last of fourteen
            12 x street(0, 0, 1, 1)
            'street 1 4 long 1; street 4 0 long 2'
            text() = 2
            quarter(4, 2)
            shade() = 13

            # instead: a CHAPEL loses by it, so that another one is chosen
            'chapel 0 1 long 1; street 1 2 long 1; street 2 0 long 2'
            text() = 3
            shade() = 2
            change(2, 3, 1)
            shade() = 1
            """);
    }

    private static void needed() {
        Edges.check("needed", """
            # NONE: there is none anyhow
            needed() = NONE
            street(3, 1, 2, 5)
            needed() = NONE
            street(3, 0, 1, 5)
            needed() = NONE
            street(3, 2, 0, 5)
            needed() = 7

            # none is needed: the empty set, which is no finding
            street(3, 0, 1, 5)
            street(3, 0, 1, 5)
            needed() = 0

            # the first and the last of fourteen
            street(3, 1, 2, 5)
            12 x street(3, 0, 1, 5)
            street(3, 2, 0, 5) = 13
            needed() = 1 + 8192

            # QUARTERS to be shown as with all
            'chapel 0 1; chapel 0 4'
            text() = 2
            needed() = 1
            quarter(1, 0)
            needed() = 0

            # the next of several STREETS steps in, if she lasts on it
            'chapel 0 1; street 0 1 long 1'
            text() = 2
            grains(0, 0)
            grains(1, 0)
            grains(2, 13)
            needed() = 0
            grains(2, 12)
            needed() = 1
            """);
    }

    private static void kindFor() {
        Edges.check("kindFor", """
            # a STREET that there is
            kindFor(0) = BEYOND
            street(0, 3, 4, 5)
            kindFor(-1) = BEYOND
            kindFor(0) = 3
            kindFor(1) = BEYOND
            kindFor(MIN) = BEYOND
            kindFor(MAX) = BEYOND

            # the last of fourteen
            14 x street(0, 3, 4, 5)
            kindFor(13) = 3
            kindFor(14) = BEYOND

            # of several KINDS the least number
            'ants 0 1; spell 0 sun 0; spell 1 sun 1; spell 2 sun 2'
            text() = 4
            kindFor(0) = 0
            wait(20)
            kindFor(0) = 2
            wait(20)
            kindFor(0) = 3

            # nothing melts of nothing
            street(6, 0, 1, 5)
            grains(0, 0)
            grains(1, 0)
            grains(2, 0)
            grains(3, 0)
            kindFor(0) = 0

            # from MINUTE on, also the last one
            'ants 0 1; spell 11 sun 1'
            text() = 2
            16 x wait(60)
            wait(39) = 999
            kindFor(0) = 2

            # as the UMBRELLA and she are
            'ants 0 1; spell 0 sun 1 rain 1'
            text() = 2
            kindFor(0) = 3
            change(0, 4, 1)
            kindFor(0) = 2
            made(1)
            kindFor(0) = 1
            """);
    }
}
