/** The boundary cases of promises 31 to 34, sentence by sentence. */
public final class WeatherEdgesTest {

    public static void main(String[] args) {
        sky();
        stray();
        year();
        seed();
        Check.finish();
    }

    private static void sky() {
        Edges.check("sky", """
            # n 1 to 12
            sky(0) = BEYOND
            sky(13) = BEYOND
            sky(-1) = BEYOND
            sky(MIN) = BEYOND
            sky(MAX) = BEYOND
            count(6) = 1
            sky(1)
            # three draws each time
            count(6) = 662824084

            # twelve times are let in
            seed(5)
            sky(12)
            status(-1) = 0

            # by seed 2866 the draws' rests are 0, 0, 4: RAIN is 0 at least
            seed(2866)
            spell(0, 1, 9)
            sky(1) = 0
            spell(0, 0, 5) = 0
            spell(0, 1, 5) = 0

            # by seed 2025 they are 0, 9, 5
            seed(2025)
            spell(0, 1, 9)
            sky(1) = 0
            spell(0, 0, 5) = 9
            spell(0, 1, 5) = 0

            # by seed 3121 they are 11, 0, 6
            seed(3121)
            sky(1) = 1
            spell(11, 0, 5) = 0
            spell(11, 1, 5) = 1

            # by seed 4480 they are 11, 9, 9; RAIN of all together is told
            seed(4480)
            spell(0, 1, 9)
            sky(1) = 13
            spell(11, 0, 5) = 9
            spell(11, 1, 5) = 4
            spell(0, 1, 5) = 9

            # by seed 66 they are 0, 9, 0
            seed(66)
            sky(1) = 0
            spell(0, 0, 5) = 9
            spell(0, 1, 5) = 0
            """);
    }

    private static void stray() {
        Edges.check("stray", """
            # n 1 to 12
            street(3, 0, 1, 5)
            stray(0) = BEYOND
            stray(13) = BEYOND
            stray(-1) = BEYOND
            stray(MIN) = BEYOND
            stray(MAX) = BEYOND
            stray(1) = 1000
            now(6) = 1
            now(7) = 5
            count(6) = 1103527590
            stray(12) = 1000
            now(6) = 1
            now(7) = 65

            # it ends, without a draw, if there is none
            street(3, 1, 2, 5)
            stray(12) = 1000
            count(6) = 1
            now(7) = 0
            status(-1) = 0

            # behind the draw, if MINUTE would be above 999
            street(3, 0, 1, 5)
            16 x wait(60)
            wait(35) = 995
            stray(12) = 1000
            count(6) = 1103527590
            now(6) = 0
            now(7) = 995
            status(-1) = 0

            # 999 is not above it
            street(0, 0, 1, 5)
            16 x wait(60)
            wait(34) = 994
            stray(12) = 1000 - 30
            count(6) = -1770082073
            now(6) = 1
            now(7) = 999
            now(8) = 2

            # the CORNERS next to hers by numbers: by seed 16 the rest by seven is 0
            'chapel 7 0; chapel 6 0; chapel 5 0; chapel 4 0; chapel 3 0; chapel 2 0; chapel 1 0'
            text() = 7
            seed(16)
            stray(1) = 1000
            now(6) = 1

            # by seed 8 it is 6
            'chapel 7 0; chapel 6 0; chapel 5 0; chapel 4 0; chapel 3 0; chapel 2 0; chapel 1 0'
            text() = 7
            seed(8)
            stray(1) = 1000
            now(6) = 7

            # by seed 2, where z is below 0, it is 5
            'chapel 7 0; chapel 6 0; chapel 5 0; chapel 4 0; chapel 3 0; chapel 2 0; chapel 1 0'
            text() = 7
            seed(2)
            stray(1) = 1000
            now(6) = 6

            # STREETS between the same two are one choice, the least of them the way
            street(3, 0, 5, 1)
            13 x street(0, 5, 0, 20)
            stray(2) = 1000
            now(6) = 0
            now(7) = 2
            """);
    }

    private static void year() {
        Edges.check("year", """
            # of nothing
            grains(0, 0)
            grains(1, 0)
            grains(2, 0)
            grains(3, 0)
            year() = 0
            now(3) = 0

            # of 4: a tenth, two tenths are cut
            grains(0, 4)
            grains(1, 0)
            grains(2, 0)
            grains(3, 0)
            year() = 4
            now(0) = 0
            now(1) = 0
            now(2) = 0
            now(3) = 4

            # of 5
            grains(0, 0)
            grains(1, 5)
            grains(2, 0)
            grains(3, 0)
            year() = 5
            now(0) = 0
            now(1) = 1
            now(2) = 1
            now(3) = 3

            # of 9, of 10
            grains(0, 0)
            grains(1, 0)
            grains(2, 9)
            grains(3, 0)
            year() = 9
            now(0) = 0
            now(1) = 1
            now(2) = 1
            now(3) = 7
            grains(3, 8)
            year() = 10
            now(0) = 1
            now(1) = 2
            now(2) = 2
            now(3) = 5

            # of all there can be, more than once
            grains(0, 9999)
            grains(1, 9999)
            grains(2, 9999)
            grains(3, 9999)
            year() = 39996
            now(0) = 3999
            now(1) = 7999
            now(2) = 7999
            now(3) = 19999
            grains(0, 9999)
            grains(1, 9999)
            grains(2, 9999)
            now(4) = 49996
            year() = 49996
            now(3) = 24999

            # then as day()
            street(0, 0, 1, 1)
            made(1)
            wait(60)
            carry(1)
            year() = 997
            now(5) = 1
            now(6) = 0
            now(7) = 0
            now(8) = 0
            now(9) = 3
            """);
    }

    private static void seed() {
        Edges.check("seed", """
            # z may be any int: that is no finding
            seed(MIN) = 1
            seed(MAX) = MIN
            seed(0) = MAX
            seed(-1000001) = 0
            count(6) = -1000001
            seed(-1000007) = -1000001
            count(6) = -1000007
            status(-1) = 0
            status(0) = 0

            # each draw makes it z * 1103515245 + 12345 (an int): it wraps around
            street(3, 0, 1, 5)
            seed(1)
            stray(1)
            count(6) = 1103527590
            stray(1)
            count(6) = -1770082073
            stray(1)
            count(6) = 662824084
            seed(0)
            stray(1)
            count(6) = 12345
            """);
    }
}
