/** The boundary cases of promises 38 to 44, sentence by sentence. */
public final class SheetsEdgesTest {

    public static void main(String[] args) {
        hold();
        as();
        sheet();
        write();
        bits();
        copy();
        copyOrder();
        load();
        judge();
        judgeLate();
        Check.finish();
    }

    private static void hold() {
        Edges.check("hold", """
            # SPOTS 0 to 9
            street(0, 0, 1, 5)
            hold(-1, 0) = BEYOND
            hold(0, 0) = 1
            hold(9, 0) = 1
            hold(10, 0) = BEYOND
            hold(MIN, 0) = BEYOND
            hold(MAX, 0) = BEYOND
            count(7) = 2

            # a STREET that there is, or nothing (-1)
            hold(0, 0) = BEYOND
            hold(0, -1) = 1
            street(0, 0, 1, 5)
            street(0, 0, 1, 5)
            hold(0, 0) = 1
            hold(0, 1) = 1
            hold(0, 2) = BEYOND
            hold(0, -2) = BEYOND
            hold(0, MIN) = BEYOND
            hold(0, MAX) = BEYOND
            as(0, 0) = 1
            hold(0, -1) = 1
            as(0, 0) = MISSING
            hold(10, -1) = BEYOND
            hold(-1, -1) = BEYOND

            # the last of fourteen
            14 x street(0, 0, 1, 5)
            hold(9, 13) = 1
            hold(9, 14) = BEYOND
            as(9, 0) = 13
            """);
    }

    private static void as() {
        Edges.check("as", """
            # SPOTS 0 to 9
            street(0, 0, 1, 5)
            hold(0, 0)
            hold(9, 0)
            as(-1, 0) = BEYOND
            as(0, 0) = 0
            as(9, 0) = 0
            as(10, 0) = BEYOND
            as(MIN, 0) = BEYOND
            as(MAX, 0) = BEYOND

            # a kind 0 to 6
            street(6, 0, 1, 5)
            hold(0, 0)
            as(0, -1) = BEYOND
            as(0, 0) = 0
            as(0, 6) = 0
            as(0, 7) = BEYOND
            as(0, MIN) = BEYOND
            as(0, MAX) = BEYOND

            # MISSING: it holds nothing; BEYOND is asked ahead of it
            as(0, 0) = MISSING
            as(9, 6) = MISSING
            as(0, 7) = BEYOND
            as(10, 0) = BEYOND

            # KIND: it isn't of that kind, nor of one under it
            'street 0 1; shaded 0 1; windy 0 1; chapel 0 1; steep 0 1; crowded 0 1; ants 0 1'
            text() = 7
            hold(0, 0)
            hold(1, 1)
            hold(2, 2)
            hold(3, 3)
            hold(4, 4)
            hold(5, 5)
            hold(6, 6)
            as(0, 1) = KIND
            as(0, 6) = KIND
            as(1, 0) = 1
            as(1, 1) = 1
            as(1, 3) = KIND
            as(1, 2) = KIND
            as(2, 2) = 2
            as(2, 4) = KIND
            as(3, 0) = 3
            as(3, 1) = 3
            as(3, 3) = 3
            as(3, 2) = KIND
            as(4, 0) = 4
            as(4, 2) = 4
            as(4, 4) = 4
            as(4, 1) = KIND
            as(4, 5) = KIND
            as(5, 5) = 5
            as(5, 6) = KIND
            as(6, 0) = 6
            as(6, 5) = 6
            as(6, 6) = 6
            as(6, 4) = KIND
            """);
    }

    private static void sheet() {
        Edges.check("sheet", """
            # BEYOND: no such sheet
            sheet(-1, 8, 1) = BEYOND
            sheet(0, 8, 1) = 1
            sheet(3, 8, 1) = 1
            sheet(4, 8, 1) = BEYOND
            sheet(MIN, 8, 1) = BEYOND
            sheet(MAX, 8, 1) = BEYOND

            # BEYOND: other bits
            sheet(0, -8, 1) = BEYOND
            sheet(0, 1, 1) = BEYOND
            sheet(0, 7, 1) = BEYOND
            sheet(0, 8, 1) = 1
            sheet(0, 9, 1) = BEYOND
            sheet(0, 15, 1) = BEYOND
            sheet(0, 16, 1) = 1
            sheet(0, 17, 1) = BEYOND
            sheet(0, 24, 1) = BEYOND
            sheet(0, 31, 1) = BEYOND
            sheet(0, 32, 1) = 1
            sheet(0, 33, 1) = BEYOND
            sheet(0, 64, 1) = BEYOND
            sheet(0, MIN, 1) = BEYOND
            sheet(0, MAX, 1) = BEYOND

            # SIZE: n is below 0 (also with bits 0)
            sheet(0, 8, 2)
            sheet(0, 8, -1) = SIZE
            sheet(0, 32, MIN) = SIZE
            sheet(0, 0, -1) = SIZE
            sheet(0, 0, MIN) = SIZE
            load(0) = 2

            # BEYOND: n is above 40 (also with bits 0)
            sheet(0, 8, 40) = 40
            sheet(0, 8, 41) = BEYOND
            sheet(0, 0, 41) = BEYOND
            sheet(0, 16, MAX) = BEYOND
            sheet(0, 0, MAX) = BEYOND
            write(0, 39, 1) = 1

            # the sheet and its bits are asked ahead of SIZE
            sheet(4, 8, -1) = BEYOND
            sheet(-1, 0, -1) = BEYOND
            sheet(0, 9, -1) = BEYOND

            # bits 0: it is MISSING: 0
            sheet(0, 8, 2) = 2
            sheet(0, 0, 0) = 0
            load(0) = MISSING
            sheet(0, 8, 2) = 2
            sheet(0, 0, 40) = 0
            load(0) = MISSING
            sheet(0, 0, 1) = 0

            # of no numbers it is there all the same
            sheet(0, 8, 0) = 0
            load(0) = 0
            judge(0) = 1000
            write(0, 0, 1) = BEYOND

            # all 0, also those that it had
            sheet(0, 8, 2)
            write(0, 0, 7)
            write(0, 1, 7)
            sheet(0, 8, 1) = 1
            sheet(0, 8, 3) = 3
            load(0) = 3
            spell(0, 0, 3) = 0
            spell(1, 0, 3) = 0
            spell(2, 0, 3) = 0
            """);
    }

    private static void write() {
        Edges.check("write", """
            # BEYOND: no such sheet
            sheet(0, 8, 1)
            sheet(3, 8, 1)
            write(-1, 0, 1) = BEYOND
            write(0, 0, 1) = 1
            write(3, 0, 1) = 1
            write(4, 0, 1) = BEYOND
            write(MIN, 0, 1) = BEYOND
            write(MAX, 0, 1) = BEYOND

            # MISSING, asked ahead of no such number
            write(0, 0, 1) = MISSING
            write(3, -1, 1) = MISSING
            write(0, 40, 1) = MISSING

            # BEYOND: no such number
            sheet(0, 8, 2)
            write(0, -1, 1) = BEYOND
            write(0, 0, 1) = 1
            write(0, 1, 1) = 1
            write(0, 2, 1) = BEYOND
            write(0, 39, 1) = BEYOND
            write(0, MIN, 1) = BEYOND
            write(0, MAX, 1) = BEYOND

            # the last of forty
            sheet(3, 32, 40)
            write(3, 39, MIN) = 1
            write(3, 40, 1) = BEYOND
            """);
    }

    private static void bits() {
        Edges.check("write: bits", """
            # of 8 bits: 255 is -1, 256 is 0
            sheet(0, 8, 1)
            write(0, 0, 255)
            load(0) = 0
            write(0, 0, 256 + 4)
            load(0) = 1
            spell(0, 0, 3) = 4
            write(0, 0, 128)
            load(0) = 0
            write(0, 0, -256)
            load(0) = 1
            spell(0, 0, 3) = 0
            write(0, 0, -247)
            load(0) = 1
            spell(0, 0, 3) = 9
            write(0, 0, -246)
            load(0) = 0
            write(0, 0, MIN)
            load(0) = 1
            write(0, 0, MAX)
            load(0) = 0

            # of 16 bits: 65535 is -1, 65536 is 0, 256 is 256
            sheet(0, 16, 1)
            write(0, 0, 65535)
            load(0) = 0
            write(0, 0, 65540)
            load(0) = 1
            spell(0, 0, 3) = 4
            write(0, 0, 256)
            load(0) = 0
            write(0, 0, 32768)
            load(0) = 0
            write(0, 0, -65536)
            load(0) = 1
            write(0, 0, MIN)
            load(0) = 1

            # of 32 bits: all as they are
            sheet(0, 32, 1)
            write(0, 0, 65536)
            load(0) = 0
            write(0, 0, 256)
            load(0) = 0
            write(0, 0, MIN)
            load(0) = 0
            write(0, 0, MAX)
            load(0) = 0
            write(0, 0, 9)
            load(0) = 1

            # CORNERS of THE READER, too: 263 of 8 bits is 7
            street(3, 0, 7, 5)
            sheet(0, 8, 1)
            sheet(1, 16, 1)
            write(0, 0, 263)
            write(1, 0, 263)
            judge(0) = 1000
            judge(1) = NONE
            """);
    }

    private static void copy() {
        Edges.check("copy", """
            # BEYOND: no such sheet (either)
            sheet(0, 8, 1)
            sheet(3, 8, 1)
            copy(-1, 0, 0, 0, 1) = BEYOND
            copy(4, 0, 0, 0, 1) = BEYOND
            copy(0, 0, -1, 0, 1) = BEYOND
            copy(0, 0, 4, 0, 1) = BEYOND
            copy(MIN, 0, 0, 0, 1) = BEYOND
            copy(0, 0, MAX, 0, 1) = BEYOND
            copy(0, 0, 3, 0, 1) = 1
            copy(3, 0, 0, 0, 1) = 1

            # BEYOND: one has not so many
            sheet(0, 8, 5)
            sheet(1, 8, 3)
            copy(0, 0, 1, 0, 3) = 3
            copy(0, 0, 1, 0, 4) = BEYOND
            copy(1, 0, 0, 0, 4) = BEYOND
            copy(0, 2, 1, 0, 3) = 3
            copy(0, 3, 1, 0, 3) = BEYOND
            copy(0, 0, 1, 1, 2) = 2
            copy(0, 0, 1, 1, 3) = BEYOND
            copy(1, 0, 0, 2, 3) = 3
            copy(1, 0, 0, 3, 3) = BEYOND
            copy(0, 4, 1, 2, 1) = 1
            copy(0, 5, 1, 2, 1) = BEYOND
            copy(0, 4, 1, 3, 1) = BEYOND

            # none, from the end to the end
            sheet(0, 8, 5)
            sheet(1, 8, 3)
            copy(0, 5, 1, 3, 0) = 0
            copy(0, 6, 1, 3, 0) = BEYOND
            copy(0, 5, 1, 4, 0) = BEYOND
            copy(0, 0, 1, 0, 0) = 0

            # from, to or n is below 0
            sheet(0, 8, 5)
            sheet(1, 8, 3)
            copy(0, -1, 1, 0, 1) = BEYOND
            copy(0, -1, 1, 0, 0) = BEYOND
            copy(0, 0, 1, -1, 1) = BEYOND
            copy(0, 0, 1, -1, 0) = BEYOND
            copy(0, 0, 1, 0, -1) = BEYOND
            copy(0, 5, 1, 3, -1) = BEYOND

            # sums that would wrap around
            sheet(0, 8, 5)
            sheet(1, 8, 3)
            copy(0, MAX, 1, 0, 1) = BEYOND
            copy(0, 0, 1, MAX, 1) = BEYOND
            copy(0, 0, 1, 0, MAX) = BEYOND
            copy(0, 1, 1, 1, MAX) = BEYOND
            copy(0, MAX, 1, MAX, MAX) = BEYOND
            copy(0, MIN, 1, 0, 1) = BEYOND
            copy(0, 0, 1, MIN, 1) = BEYOND
            copy(0, 0, 1, 0, MIN) = BEYOND
            copy(0, MIN, 1, MIN, MIN) = BEYOND
            copy(0, MAX, 1, MAX, 2) = BEYOND

            # sheets of no numbers, of all there can be
            sheet(0, 16, 0)
            sheet(1, 16, 40)
            sheet(2, 16, 40)
            copy(0, 0, 1, 40, 0) = 0
            copy(0, 0, 1, 0, 1) = BEYOND
            copy(1, 0, 2, 0, 40) = 40
            copy(1, 0, 2, 0, 41) = BEYOND

            # a sheet onto itself, as they all were: one on, one back
            sheet(0, 8, 4)
            write(0, 0, 1)
            write(0, 1, 2)
            write(0, 2, 3)
            write(0, 3, 4)
            copy(0, 0, 0, 1, 3) = 3
            load(0) = 4
            spell(0, 0, 3) = 1
            spell(1, 0, 3) = 1
            spell(2, 0, 3) = 2
            spell(3, 0, 3) = 3
            copy(0, 1, 0, 0, 3) = 3
            load(0) = 4
            spell(0, 0, 3) = 1
            spell(1, 0, 3) = 2
            spell(2, 0, 3) = 3
            spell(3, 0, 3) = 3
            """);
    }

    private static void copyOrder() {
        Edges.check("copy: the order of findings", """
            # MISSING: one is; BEYOND of a sheet is asked ahead of it
            sheet(0, 8, 3)
            copy(0, 0, 1, 0, 0) = MISSING
            copy(1, 0, 0, 0, 0) = MISSING
            copy(1, 0, 2, 0, 0) = MISSING
            copy(1, 0, 1, 0, 0) = MISSING
            copy(1, 0, 4, 0, 0) = BEYOND
            copy(-1, 0, 1, 0, 0) = BEYOND

            # MISSING is asked ahead of KIND and of the numbers
            sheet(0, 8, 3)
            copy(0, -1, 1, 0, 1) = MISSING
            copy(0, 0, 1, 0, 99) = MISSING

            # KIND: they are not of as many bits, asked ahead of the numbers
            sheet(0, 8, 3)
            sheet(1, 16, 3)
            sheet(2, 32, 3)
            copy(0, 0, 1, 0, 1) = KIND
            copy(1, 0, 2, 0, 1) = KIND
            copy(2, 0, 0, 0, 0) = KIND
            copy(0, -1, 1, 0, 1) = KIND
            copy(0, 0, 1, 0, 99) = KIND
            sheet(1, 8, 3)
            copy(0, 0, 1, 0, 3) = 3
            """);
    }

    private static void load() {
        Edges.check("load", """
            # BEYOND: no such sheet
            sheet(0, 8, 1)
            sheet(3, 8, 1)
            load(-1) = BEYOND
            load(0) = 1
            load(3) = 1
            load(4) = BEYOND
            load(MIN) = BEYOND
            load(MAX) = BEYOND

            # MISSING
            load(0) = MISSING
            load(3) = MISSING

            # it ends at the first that isn't 0 to 9: above
            sheet(0, 8, 3)
            write(0, 0, 9)
            write(0, 1, 10)
            load(0) = 1
            spell(0, 0, 3) = 9
            spell(1, 0, 3) = 3
            spell(2, 0, 3) = 3
            write(0, 1, 9)
            load(0) = 3

            # below
            sheet(0, 8, 3)
            write(0, 1, -1)
            load(0) = 1
            spell(0, 0, 3) = 0
            spell(1, 0, 3) = 3
            write(0, 0, -1)
            load(0) = 0

            # or for which there is no SPELL
            sheet(0, 8, 11)
            load(0) = 11
            spell(11, 0, 3) = 3
            sheet(0, 8, 12)
            load(0) = 12
            spell(11, 0, 3) = 0
            sheet(0, 8, 13)
            load(0) = 12
            sheet(0, 8, 40)
            write(0, 12, 99)
            load(0) = 12
            write(0, 11, 99)
            load(0) = 11

            # of no numbers none comes
            sheet(0, 32, 0)
            load(0) = 0
            count(3) = 36
            """);
    }

    private static void judge() {
        Edges.check("judge", """
            # BEYOND: no such sheet
            sheet(0, 8, 0)
            sheet(3, 8, 0)
            judge(-1) = BEYOND
            judge(0) = 1000
            judge(3) = 1000
            judge(4) = BEYOND
            judge(MIN) = BEYOND
            judge(MAX) = BEYOND

            # MISSING
            judge(0) = MISSING
            judge(3) = MISSING

            # NONE: to one no STREET goes, the first or the last
            'chapel 0 1; chapel 1 7'
            text() = 2
            sheet(0, 8, 2)
            write(0, 0, 1)
            write(0, 1, 7)
            judge(0) = 1000
            write(0, 1, 1)
            judge(0) = NONE
            write(0, 1, 2)
            judge(0) = NONE
            write(0, 0, 7)
            write(0, 1, 1)
            judge(0) = NONE
            write(0, 0, 0)
            judge(0) = NONE

            # numbers that are no CORNERS
            street(3, 0, 7, 5)
            sheet(0, 32, 1)
            write(0, 0, 7)
            judge(0) = 1000
            write(0, 0, 8)
            judge(0) = NONE
            write(0, 0, -1)
            judge(0) = NONE
            write(0, 0, MIN)
            judge(0) = NONE
            write(0, 0, MAX)
            judge(0) = NONE

            # from where she is
            street(3, 0, 7, 5)
            sheet(0, 8, 1)
            carry(7)
            judge(0) = 1000
            now(6) = 7
            carry(0)
            judge(0) = NONE

            # what melts on one STREET and on the next goes off together
            'street 0 1 long 1; street 1 2 long 2'
            text() = 2
            sheet(0, 8, 3)
            write(0, 0, 1)
            write(0, 1, 2)
            write(0, 2, 1)
            judge(0) = 1000 - 6 - 12 - 12
            now(4) = 1000
            now(6) = 0
            now(7) = 0
            now(8) = 0
            now(9) = 0

            # by the SPELL of MINUTE, from where the STREET ahead ends
            'street 0 1 long 10; spell 1 sun 1; spell 2 sun 0'
            text() = 3
            sheet(0, 8, 4)
            write(0, 0, 1)
            write(0, 2, 1)
            wait(5)
            judge(0) = 1000 - 90 - 30 - 10

            # nothing LEFT is no finding
            street(0, 0, 1, 1)
            sheet(0, 8, 1)
            write(0, 0, 1)
            grains(0, 0)
            grains(1, 0)
            grains(2, 0)
            grains(3, 7)
            judge(0) = 1
            grains(3, 6)
            judge(0) = 0
            grains(3, 5)
            judge(0) = 0
            """);
    }

    private static void judgeLate() {
        Edges.check("judge, late", """
            # STATE: MINUTE would be above 999 by one
            'street 0 1 long 5; crowded 0 2 long 3'
            text() = 2
            sheet(0, 8, 1)
            write(0, 0, 1)
            sheet(1, 8, 1)
            write(1, 0, 2)
            16 x wait(60)
            wait(34) = 994
            judge(0) = 1000 - 30
            judge(1) = 1000 - 40
            wait(1)
            judge(0) = STATE
            judge(1) = STATE

            # by the second one
            street(3, 0, 1, 5)
            sheet(0, 8, 2)
            write(0, 0, 1)
            16 x wait(60)
            wait(29) = 989
            judge(0) = 1000
            wait(1)
            judge(0) = STATE

            # whichever comes first: NONE
            street(3, 0, 1, 5)
            sheet(0, 8, 2)
            write(0, 0, 2)
            write(0, 1, 1)
            16 x wait(60)
            wait(39) = 999
            judge(0) = NONE

            # NONE also where it comes just behind the last MINUTE
            street(3, 0, 1, 5)
            sheet(0, 8, 2)
            write(0, 0, 1)
            write(0, 1, 2)
            16 x wait(60)
            wait(34) = 994
            judge(0) = NONE
            wait(1) = 995
            judge(0) = STATE

            # forty CORNERS, from the first MINUTE past the last
            street(3, 0, 1, 20)
            sheet(0, 8, 40)
            write(0, 0, 1)
            write(0, 2, 1)
            write(0, 4, 1)
            judge(0) = NONE
            sheet(0, 8, 6)
            write(0, 0, 1)
            write(0, 2, 1)
            write(0, 4, 1)
            judge(0) = 1000
            now(7) = 0

            # a MISSING sheet, no such sheet at the last MINUTE
            16 x wait(60)
            wait(39) = 999
            judge(0) = MISSING
            judge(4) = BEYOND
            sheet(0, 8, 0)
            judge(0) = 1000
            """);
    }
}
