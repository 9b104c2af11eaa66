/** The boundary cases of promises 35 to 37, sentence by sentence. */
public final class TextsEdgesTest {

    public static void main(String[] args) {
        feed();
        wipe();
        wholeTexts();
        streetItems();
        spellItems();
        quarterItems();
        tokens();
        signs();
        earlyEnds();
        fifteenthStreets();
        Check.finish();
    }

    private static void feed() {
        Edges.check("feed", """
            # n 1 to 4
            feed(0, 0) = BEYOND
            feed(0, 5) = BEYOND
            feed(0, -1) = BEYOND
            feed(0, MIN) = BEYOND
            feed(0, MAX) = BEYOND
            feed(0, 1) = 1
            feed(0, 4) = 5
            count(5) = 5

            # FULL: at most 120 bytes
            29 x feed(0, 4) = 116
            feed(0, 4) = 120
            feed(0, 1) = FULL
            feed(0, 4) = FULL
            count(5) = 120

            # those that there is no room for don't come in part
            29 x feed(0, 4) = 116
            feed(0, 3) = 119
            feed(0, 4) = FULL
            feed(0, 2) = FULL
            feed(0, 1) = 120
            feed(0, 1) = FULL

            # BEYOND is asked ahead of FULL
            30 x feed(0, 4) = 120
            feed(0, 0) = BEYOND
            feed(0, 5) = BEYOND

            # the n lowest bytes, the highest of these first: 'salt'
            feed(1935764596, 4) = 4
            text() = 1
            now(5) = 1

            # of 'xxsu', 'xgar' the last two, three: 'sugar'
            made(1)
            feed(2021159797, 2) = 2
            feed(2020041074, 3) = 5
            text() = 1
            now(5) = 0

            # bytes above 127 are no letters, whatever their sign
            feed(-1, 4) = 4
            text() = -1 - 0
            'salt'
            feed(-1, 1) = 5
            text() = -1 - 4
            """);
    }

    private static void wipe() {
        Edges.check("wipe", """
            # an empty one, a full one
            wipe() = 0
            30 x feed(0, 4)
            wipe() = 120
            wipe() = 0
            count(5) = 0
            30 x feed(0, 4) = 120

            # what was wiped is not read
            'sugar;'
            wipe() = 6
            'salt'
            text() = 1
            now(5) = 1
            """);
    }

    private static void wholeTexts() {
        Edges.check("text", """
            # an empty TAPE, blanks alone: it ends too early
            text() = -1 - 0
            ' '
            text() = -1 - 1
            '    '
            text() = -1 - 4

            # a full TAPE, as many ITEMS as there can be
            'salt;salt;salt;salt;salt;salt;salt;salt;salt;salt;salt;salt;'
            'salt;salt;salt;salt;salt;salt;salt;salt;salt;salt;salt;sugar'
            count(5) = 120
            text() = 24
            count(5) = 0
            now(5) = 0

            # a full TAPE that ends too early, by one byte
            'salt;salt;salt;salt;salt;salt;salt;salt;salt;salt;salt;salt;'
            'salt;salt;salt;salt;salt;salt;salt;salt;salt;salt;salt;salt;'
            count(5) = 120
            text() = -1 - 120

            # THE TAPE is empty then, with a FAULT too
            'salt'
            text() = 1
            text() = -1 - 0
            'nonsense'
            text() = -1 - 0
            count(5) = 0

            # a FAULT in the last ITEM: none of those ahead of it is so
            'salt; street 0 1; spell 0 sun 9 rain 9; quarter 0 3; ants 1 2 umbrella; chapel 3 3'
            text() = -1 - 81
            now(5) = 0
            count(0) = 0
            count(3) = 36
            count(4) = 0
            quarter(0, 0) = 0

            # item by item: the last one that tells of something counts
            'spell 11 sun 1; spell 11 sun 9; quarter 7 1; quarter 7 2; salt; sugar; salt'
            text() = 7
            spell(11, 0, 3) = 9
            quarter(7, 3) = 2
            now(5) = 1

            # a FAULT is no finding
            'x'
            text() = -1 - 0
            status(-1) = 0
            """);
    }

    private static void streetItems() {
        Edges.check("text: streets", """
            # CORNERS 0 to 7, unlike ones
            'street 0 7'
            text() = 1
            'street 7 0'
            text() = 1
            'street 8 0'
            text() = -1 - 7
            'street 0 8'
            text() = -1 - 9
            'street 0 0'
            text() = -1 - 9
            'street 7 7'
            text() = -1 - 9
            'street 9999 0'
            text() = -1 - 7
            'street 10000 0'
            text() = -1 - 7
            count(0) = 2
            of(1, 1) = 0
            of(1, 2) = 7

            # long 1 to 20; 5 without
            'street 0 1 long 0'
            text() = -1 - 16
            'street 0 1 long 1'
            text() = 1
            'street 0 1 long 20'
            text() = 1
            'street 0 1 long 21'
            text() = -1 - 16
            'street 0 1 long 9999'
            text() = -1 - 16
            'street 0 1 long 10000'
            text() = -1 - 16
            'street 0 1 long 4294967301'
            text() = -1 - 16
            'street 0 1 long 18446744073709551617'
            text() = -1 - 16
            'street 0 1'
            text() = 1
            count(0) = 3
            of(0, 3) = 1
            of(1, 3) = 20
            of(2, 3) = 5

            # perhaps umbrella, behind long, once
            'street 0 1 umbrella; street 0 1 long 2 umbrella; street 0 1 long 2; street 0 1'
            text() = 4
            of(0, 3) = 5
            of(0, 4) = 1
            of(1, 3) = 2
            of(1, 4) = 1
            of(2, 4) = 0
            of(3, 4) = 0
            'street 0 1 umbrella long 2'
            text() = -1 - 20
            'street 0 1 umbrella umbrella'
            text() = -1 - 20
            'street 0 1 long 2 long 2'
            text() = -1 - 18
            'street 0 1 long umbrella'
            text() = -1 - 16

            # another number, another word, a sign where none can stand
            'street 0 1 2'
            text() = -1 - 11
            'street 0 1 rain'
            text() = -1 - 11
            'street 0 1 street 1 2'
            text() = -1 - 11
            'street; 0 1'
            text() = -1 - 6
            'street 0; 1'
            text() = -1 - 8
            'street zero 1'
            text() = -1 - 7

            # KINDS by their words, the first and the last
            'street 0 1; shaded 0 1; windy 0 1; chapel 0 1; steep 0 1; crowded 0 1; ants 0 1'
            text() = 7
            of(0, 0) = 0
            of(1, 0) = 1
            of(2, 0) = 2
            of(3, 0) = 3
            of(4, 0) = 4
            of(5, 0) = 5
            of(6, 0) = 6
            """);
    }

    private static void spellItems() {
        Edges.check("text: spells", """
            # SPELLS 0 to 11
            'spell 0 sun 1; spell 11 sun 1'
            text() = 2
            'spell 12 sun 1'
            text() = -1 - 6
            spell(0, 0, 3) = 1
            spell(11, 0, 3) = 1

            # sun 0 to 9
            'spell 3 sun 0'
            text() = 1
            spell(3, 0, 3) = 0
            'spell 3 sun 9'
            text() = 1
            spell(3, 0, 3) = 9
            'spell 3 sun 10'
            text() = -1 - 12

            # rain 0 to 9
            'spell 3 rain 9'
            text() = 1
            spell(3, 1, 3) = 9
            'spell 3 rain 0'
            text() = 1
            spell(3, 1, 3) = 0
            'spell 3 rain 10'
            text() = -1 - 13

            # perhaps sun, perhaps rain: neither, one, both
            spell(3, 1, 2)
            'spell 3'
            text() = 1
            spell(3, 0, 3) = 3
            spell(3, 1, 2) = 2
            'spell 3 rain 4'
            text() = 1
            spell(3, 0, 3) = 3
            spell(3, 1, 2) = 4
            'spell 3 sun 5'
            text() = 1
            spell(3, 0, 3) = 5
            spell(3, 1, 2) = 2
            'spell 3 sun 6 rain 7'
            text() = 1
            spell(3, 0, 3) = 6
            spell(3, 1, 2) = 7

            # sun ahead of rain, each once
            'spell 3 rain 1 sun 1'
            text() = -1 - 15
            'spell 3 sun 1 sun 1'
            text() = -1 - 14
            'spell 3 rain 1 rain 1'
            text() = -1 - 15
            'spell 3 sun rain 1'
            text() = -1 - 12
            'spell 3 1'
            text() = -1 - 8
            'spell sun 1'
            text() = -1 - 6
            'spell 3 umbrella'
            text() = -1 - 8
            """);
    }

    private static void quarterItems() {
        Edges.check("text: quarters, salt, sugar", """
            # a NUMBER 0 to 7
            'quarter 0 3; quarter 7 0'
            text() = 2
            quarter(0, 0) = 3
            quarter(7, 3) = 0
            'quarter 8 0'
            text() = -1 - 8

            # a NUMBER 0 to 3
            'quarter 0 4'
            text() = -1 - 10
            'quarter 0 3 0'
            text() = -1 - 12
            'quarter 0;0'
            text() = -1 - 9
            'quarter sun 0'
            text() = -1 - 8

            # a TEXT that tells of neither leaves her of what she is
            made(1)
            'quarter 0 3'
            text() = 1
            now(5) = 1
            made(0)
            'quarter 0 2'
            text() = 1
            now(5) = 0
            'salt; street 0 0'
            text() = -1 - 15
            'quarter 0 1'
            text() = 1
            now(5) = 0
            'salt'
            text() = 1
            made(0)
            'spell 0'
            text() = 1
            now(5) = 0

            # salt or sugar, with nothing behind it
            'salt'
            text() = 1
            now(5) = 1
            'sugar'
            text() = 1
            now(5) = 0
            'salt 1'
            text() = -1 - 5
            'salt sugar'
            text() = -1 - 5
            'salt umbrella'
            text() = -1 - 5
            """);
    }

    private static void tokens() {
        Edges.check("text: tokens", """
            # each as long as can be
            'saltsugar'
            text() = -1 - 0
            'streets 0 1'
            text() = -1 - 0
            'stree 0 1'
            text() = -1 - 0
            'street 01'
            text() = -1 - 9
            'street 0 1 longs 3'
            text() = -1 - 11
            'street 0 1 umbrellas'
            text() = -1 - 11

            # blanks may stand between, and need not
            'street0 1long20umbrella;salt'
            text() = 2
            '   street   3   4   ;   sugar   '
            text() = 2
            ';'
            text() = -1 - 0
            'salt;;salt'
            text() = -1 - 5
            'salt salt'
            text() = -1 - 5

            # WORDS as long as those that are known, of which one letter is another
            'talt'
            text() = -1 - 0
            'salu'
            text() = -1 - 0
            'sals'
            text() = -1 - 0
            'zugar'
            text() = -1 - 0
            'streeu 0 1'
            text() = -1 - 0
            'antz 0 1'
            text() = -1 - 0
            'street 0 1 mong 3'
            text() = -1 - 11
            'spell 0 sum 1'
            text() = -1 - 8
            'spell 0 run 1'
            text() = -1 - 8
            'spell 0 rail 1'
            text() = -1 - 8
            'saltz'
            text() = -1 - 0
            'salta'
            text() = -1 - 0
            """);
    }

    private static void signs() {
        Edges.check("text: letters, digits, other bytes", """
            # letters a to z
            'Salt'
            text() = -1 - 0
            'saltZ'
            text() = -1 - 4
            'salt`'
            text() = -1 - 4
            'salt{'
            text() = -1 - 4
            'zebra'
            text() = -1 - 0

            # digits 0 to 9
            'street 0 1 long 1/'
            text() = -1 - 17
            'street 0 1 long 1:'
            text() = -1 - 17
            'spell 09 sun 009'
            text() = 1
            spell(9, 0, 3) = 9

            # a byte that begins no TOKEN
            '-'
            text() = -1 - 0
            'street -1 2'
            text() = -1 - 7
            'salt,sugar'
            text() = -1 - 4
            'salt; ?'
            text() = -1 - 6

            # bytes below and above a blank, above all letters
            feed(0, 1)
            text() = -1 - 0
            feed(31, 1)
            text() = -1 - 0
            feed(33, 1)
            text() = -1 - 0
            feed(127, 1)
            text() = -1 - 0
            'salt'
            feed(0, 2)
            text() = -1 - 4
            feed(32, 1)
            'salt'
            feed(32, 1)
            text() = 1

            # the first that can't stand there, not a later one
            'street 0 1 sun; ?'
            text() = -1 - 11
            'salt; street 9 9; spell 12'
            text() = -1 - 13
            """);
    }

    private static void earlyEnds() {
        Edges.check("text: early ends", """
            # how many bytes there are if it ends too early
            'street'
            text() = -1 - 6
            'street '
            text() = -1 - 7
            'street 0'
            text() = -1 - 8
            'street 0  '
            text() = -1 - 10
            'street 0 1 long'
            text() = -1 - 15
            'street 0 1 long '
            text() = -1 - 16
            'spell'
            text() = -1 - 5
            'spell 0 sun'
            text() = -1 - 11
            'spell 0 rain'
            text() = -1 - 12
            'spell 0 sun 1 rain '
            text() = -1 - 19
            'quarter'
            text() = -1 - 7
            'quarter 0'
            text() = -1 - 9
            'salt;'
            text() = -1 - 5
            'salt;   '
            text() = -1 - 8
            """);
    }

    private static void fifteenthStreets() {
        Edges.check("text: a 15th STREET", """
            # the 14th is let in, the 15th is a FAULT of its WORD
            13 x street(0, 0, 1, 1)
            'ants 0 1; ants 0 1'
            text() = -1 - 10
            count(0) = 13
            'ants 0 1'
            text() = 1
            count(0) = 14
            'ants 0 1'
            text() = -1 - 0
            'salt;  ants 0 1'
            text() = -1 - 7

            # it comes ahead of what is behind it, and behind what is ahead of it
            14 x street(0, 0, 1, 1)
            'ants 9'
            text() = -1 - 0
            'ants'
            text() = -1 - 0
            'spell 12; ants 0 1'
            text() = -1 - 6

            # other ITEMS are let in
            14 x street(0, 0, 1, 1)
            'salt; spell 0 sun 0; quarter 0 1'
            text() = 3
            """);
    }
}
