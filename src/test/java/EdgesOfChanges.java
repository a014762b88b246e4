/** The sentences of the promises 1 to 26, at their edges; the answers were reckoned by hand. */
final class EdgesOfChanges {
    private static final String NO_MEMBER_OR_HOUSE = "Throws `IndexOutOfBoundsException` if there is no such MEMBER or HOUSE";
    private static final String NO_MEMBER_OR_SPELL = "Throws `IndexOutOfBoundsException` if there is no such MEMBER or SPELL";
    private static final String NO_HOUSE = "Throws `IndexOutOfBoundsException` if there is no such HOUSE";

    private EdgesOfChanges() {
    }

    static void run() {
        newAndMember();
        spell();
        unspellAndCut();
        death();
        wage();
        price();
        rule();
        terms();
        form();
        tie();
        marry();
        divide();
        widowsAndRaise();
        bridge();
        lessen();
        annuity();
        go();
        payOut();
        interest();
        enter();
        type();
        undoAndKnock();
    }

    private static void newAndMember() {
        Edges.promise(1, "Creates a ledger without members.", """
            count 0 = 0
            ofMember 0 0 ! IOOBE
            ofMember -1 0 ! IOOBE
            has 0 0 0 ! IOOBE
            count 1 = 0
            count 2 = 0
            count 8 = 0
            isSound = true
            """);
        Edges.promise(2, "Throws `IllegalArgumentException` if birth is no DAY", """
            member -1 ! IAE
            member 6000 ! IAE
            member -2147483648 ! IAE
            member 2147483647 ! IAE
            member 0 = 0
            member 5999 = 1
            """);
        Edges.promise(2, "Throws `IllegalStateException` if there are 4", """
            member 9 = 0
            member 9 = 1
            member 9 = 2
            member 9 = 3
            member 9 ! ISE
            undo = 3
            member 9 = 3
            member 9 ! ISE
            count 0 = 4
            """);
    }

    private static void spell() {
        Edges.promise(3, NO_MEMBER_OR_HOUSE, """
            spell 0 0 0 0 1 0 ! IOOBE
            member 0 = 0
            spell -1 0 0 0 1 0 ! IOOBE
            spell 1 0 0 0 1 0 ! IOOBE
            spell 0 -1 0 0 1 0 ! IOOBE
            spell 0 3 0 0 1 0 ! IOOBE
            spell -2147483648 0 0 0 1 0 ! IOOBE
            spell 0 2147483647 0 0 1 0 ! IOOBE
            spell 0 2 0 0 1 0 = 0
            undo = 1
            undo = 0
            spell 0 2 0 0 1 0 ! IOOBE
            """);
        Edges.promise(3, "Throws `IllegalArgumentException` if from or to is no DAY, to is ahead of from, part not 1 to 100, or kind"
            + " not 0 to 2", """
            member 0 = 0
            spell 0 0 -1 0 1 0 ! IAE
            spell 0 0 0 6000 1 0 ! IAE
            spell 0 0 6000 6000 1 0 ! IAE
            spell 0 0 -1 -1 1 0 ! IAE
            spell 0 0 -2147483648 2147483647 1 0 ! IAE
            spell 0 0 2 1 1 0 ! IAE
            spell 0 0 0 0 0 0 ! IAE
            spell 0 0 0 0 101 0 ! IAE
            spell 0 0 0 0 -1 0 ! IAE
            spell 0 0 0 0 1 -1 ! IAE
            spell 0 0 0 0 1 3 ! IAE
            ofMember 0 2 = 0
            count 3 = 1
            spell 0 0 0 5999 1 2 = 0
            spell 0 0 5999 5999 100 0 = 1
            spell 0 0 0 0 100 1 = 2
            """);
        Edges.promise(3, "Throws `IllegalStateException` if from is ahead of its BIRTH, or it has 10", """
            member 100 = 0
            member 0 = 1
            spell 0 0 99 200 1 0 ! ISE
            spell 0 0 0 99 1 0 ! ISE
            spell 0 0 100 100 1 0 = 0
            x9: spell 0 0 100 5999 1 0 = _
            spell 0 0 100 200 1 0 ! ISE
            spell 0 0 99 200 1 0 ! ISE
            spell 0 1 100 200 1 2 ! ISE      # ten in all houses
            spell 1 0 0 0 1 0 = 0
            unspell 0 4 = 9
            spell 0 0 99 200 1 0 ! ISE
            spell 0 0 100 200 1 0 = 9
            """);
    }

    private static void unspellAndCut() {
        Edges.promise(4, NO_MEMBER_OR_SPELL, """
            unspell 0 0 ! IOOBE
            member 0 = 0
            unspell 0 0 ! IOOBE
            spell 0 0 0 0 1 0 = 0
            unspell 0 -1 ! IOOBE
            unspell 0 1 ! IOOBE
            unspell 1 0 ! IOOBE
            unspell -1 0 ! IOOBE
            unspell 0 2147483647 ! IOOBE
            unspell 0 -2147483648 ! IOOBE
            unspell 0 0 = 0
            unspell 0 0 ! IOOBE
            """);
        Edges.promise(4, "Returns how many it has then.", """
            member 0 = 0
            spell 0 0 0 0 1 0 = 0
            spell 0 1 1 1 2 1 = 1
            spell 0 2 2 2 3 2 = 2
            unspell 0 2 = 2
            line 0 1 = 1-1:2r
            unspell 0 0 = 1
            line 0 0 = 1-1:2r
            unspell 0 0 = 0
            time 0 1 0 5999 = 0
            x10: spell 0 0 5 6 7 0 = _
            unspell 0 9 = 9
            unspell 0 0 = 8
            """);
        Edges.promise(5, NO_MEMBER_OR_SPELL, """
            cut 0 0 1 ! IOOBE
            member 0 = 0
            cut 0 0 1 ! IOOBE
            spell 0 0 0 9 1 0 = 0
            cut 0 1 1 ! IOOBE
            cut 0 -1 1 ! IOOBE
            cut 1 0 1 ! IOOBE
            cut -1 0 1 ! IOOBE
            cut 0 0 1 = 1
            """);
        Edges.promise(5, "Throws `IllegalArgumentException` if day is not above its FROM, or above its TO", """
            member 0 = 0
            spell 0 0 10 12 1 0 = 0
            cut 0 0 10 ! IAE
            cut 0 0 9 ! IAE
            cut 0 0 13 ! IAE
            cut 0 0 -1 ! IAE
            cut 0 0 -2147483648 ! IAE
            cut 0 0 2147483647 ! IAE
            cut 0 0 12 = 1           # the last day alone
            cut 0 1 12 ! IAE         # one day can not be cut
            cut 0 0 11 = 2           # the first day alone
            cut 0 0 11 ! IAE
            line 0 0 = 10-10:1w
            line 0 1 = 12-12:1w
            line 0 2 = 11-11:1w
            spell 0 0 0 5999 1 0 = 3
            cut 0 3 5999 = 4
            cut 0 3 0 ! IAE
            line 0 4 = 5999-5999:1w
            """);
        Edges.promise(5, "Throws `IllegalStateException` if it has 10", """
            member 0 = 0
            x9: spell 0 0 10 19 1 0 = _
            cut 0 0 15 = 9
            cut 0 0 12 ! ISE
            cut 0 0 15 ! IAE
            cut 0 10 12 ! IOOBE
            unspell 0 9 = 9
            cut 0 0 12 = 9
            """);
        Edges.promise(5, "A SPELL is cut in two: it ends ahead of a DAY, and a new one, that is alike, has that DAY and all behind it that"
            + " it had.", """
            member 0 = 0
            spell 0 0 5 5 3 0 = 0
            spell 0 2 10 20 70 1 = 1
            spell 0 1 5 5 3 2 = 2
            time 0 2 0 5999 = 770
            cut 0 1 11 = 3
            line 0 1 = 10-10:70r
            line 0 2 = 5-5:3g
            line 0 3 = 11-20:70r
            has 0 2 10 = 70
            has 0 2 11 = 70
            has 0 2 20 = 70
            has 0 0 11 = 0
            time 0 2 0 5999 = 770
            unspell 0 3 = 3
            time 0 2 0 5999 = 70
            """);
    }

    private static void death() {
        Edges.promise(6, "Throws `IndexOutOfBoundsException` if there is no such MEMBER", """
            death 0 0 ! IOOBE
            member 0 = 0
            death 1 0 ! IOOBE
            death -1 0 ! IOOBE
            death 0 0 = -1
            """);
        Edges.promise(6, "Throws `IllegalArgumentException` if day is not NONE, nor a DAY that is not ahead of its BIRTH", """
            member 10 = 0
            death 0 9 ! IAE
            death 0 0 ! IAE
            death 0 -2 ! IAE
            death 0 6000 ! IAE
            death 0 -2147483648 ! IAE
            death 0 2147483647 ! IAE
            death 0 10 = -1          # on the day of its birth
            death 0 5999 = 10
            death 0 -1 = 5999
            death 0 -1 = -1
            member 0 = 1
            death 1 0 = -1
            """);
        Edges.promise(6, "- `day`: the DAY; NONE: it lives", """
            member 0 = 0
            spell 0 0 0 5999 1 0 = 0
            death 0 -1 = -1
            time 0 0 0 5999 = 6000
            death 0 0 = -1
            time 0 0 0 5999 = 1
            death 0 -1 = 0
            time 0 0 0 5999 = 6000
            ofMember 0 1 = -1
            """);
    }

    private static void wage() {
        Edges.promise(7, NO_MEMBER_OR_HOUSE, """
            wage 0 0 0 0 ! IOOBE
            member 0 = 0
            wage 1 0 0 0 ! IOOBE
            wage -1 0 0 0 ! IOOBE
            wage 0 3 0 0 ! IOOBE
            wage 0 -1 0 0 ! IOOBE
            wage 0 2 0 0 = 0
            """);
        Edges.promise(7, "Throws `IllegalArgumentException` if month is no MONTH, or coins not 0 to 9999", """
            member 0 = 0
            wage 0 0 -1 0 ! IAE
            wage 0 0 1200 0 ! IAE
            wage 0 0 2147483647 0 ! IAE
            wage 0 0 0 -1 ! IAE
            wage 0 0 0 10000 ! IAE
            wage 0 0 0 -2147483648 ! IAE
            wage 0 0 0 0 = 0
            wage 0 0 1199 9999 = 0
            wage 0 0 1199 0 = 9999
            """);
        Edges.promise(7, "Throws `IllegalStateException` if 8 are told, and none for that beginning", """
            member 0 = 0
            member 0 = 1
            wage 0 0 80 1 = 0
            wage 0 0 10 2 = 0
            wage 0 0 70 3 = 2
            wage 0 0 20 4 = 2
            wage 0 0 60 5 = 4
            wage 0 0 30 6 = 4
            wage 0 0 50 7 = 6
            wage 0 0 40 8 = 6
            wage 0 0 9 9 ! ISE
            wage 0 0 11 9 ! ISE
            wage 0 0 79 9 ! ISE
            wage 0 0 81 9 ! ISE
            wage 0 0 80 9 = 1
            wage 0 0 10 9 = 2
            wage 0 0 40 9 = 8
            wage 0 1 11 9 = 0        # of each house
            wage 1 0 11 9 = 0        # and each member
            undo = 7
            undo = 6
            undo = 5
            undo = 4
            undo = 3
            undo = 2                 # the eighth one goes
            wage 0 0 11 9 = 2
            """);
        Edges.promise(7, "Returns WAGE of that MONTH before.", """
            member 0 = 0
            wage 0 0 10 5 = 0
            wage 0 0 9 6 = 0
            wage 0 0 10 7 = 5
            wage 0 0 1199 8 = 7
            wage 0 0 11 9 = 7
            wage 0 0 0 1 = 0
            """);
    }

    private static void price() {
        Edges.promise(8, "Throws `IllegalArgumentException` if year is no YEAR, or price not 1 to 9999", """
            price -1 1 ! IAE
            price 100 1 ! IAE
            price -2147483648 1 ! IAE
            price 0 0 ! IAE
            price 0 10000 ! IAE
            price 0 -1 ! IAE
            price 0 2147483647 ! IAE
            count 7 = 0
            price 0 1 = 100
            price 99 9999 = 1
            """);
        Edges.promise(8, "Throws `IllegalStateException` if 12 are told, and none for that beginning", """
            price 90 1 = 100
            price 10 2 = 100
            price 80 3 = 2
            price 20 4 = 2
            price 70 5 = 4
            price 30 6 = 4
            price 60 7 = 6
            price 40 8 = 6
            price 50 9 = 8
            price 51 10 = 9
            price 52 11 = 10
            price 53 12 = 11
            price 9 13 ! ISE
            price 54 13 ! ISE
            price 91 13 ! ISE
            price 90 13 = 1
            price 10 14 = 2
            price 53 15 = 12
            count 7 = 12
            undo = 7
            undo = 6
            undo = 5
            undo = 4
            count 7 = 11
            price 54 16 = 11
            """);
        Edges.promise(8, "Returns PRICE of that YEAR before.", """
            price 50 7 = 100
            price 49 8 = 100
            price 50 9 = 7
            price 99 1 = 9
            price 0 2 = 100
            """);
    }

    private static void rule() {
        Edges.promise(9, NO_HOUSE, """
            rule 3 0 0 0 0 ! IOOBE
            rule -1 0 0 0 0 ! IOOBE
            rule 2 0 0 0 0 = 1
            """);
        Edges.promise(9, "Throws `IllegalArgumentException` if day is no DAY, rate or behind not 0 to 50, or bend not 0 to 60", """
            rule 0 -1 0 0 0 ! IAE
            rule 0 6000 0 0 0 ! IAE
            rule 0 0 -1 0 0 ! IAE
            rule 0 0 51 0 0 ! IAE
            rule 0 0 0 -1 0 ! IAE
            rule 0 0 0 61 0 ! IAE
            rule 0 0 0 0 -1 ! IAE
            rule 0 0 0 0 51 ! IAE
            rule 0 0 2147483647 2147483647 2147483647 ! IAE
            count 3 = 0
            rule 0 0 0 0 0 = 1
            rule 0 5999 50 60 50 = 2
            """);
        Edges.promise(9, "Throws `IllegalStateException` if it has 6, and none for that beginning", """
            rule 0 50 1 1 1 = 2
            rule 0 10 1 1 1 = 3
            rule 0 40 1 1 1 = 4
            rule 0 20 1 1 1 = 5
            rule 0 5999 1 1 1 = 6
            rule 0 30 1 1 1 ! ISE
            rule 0 1 1 1 1 ! ISE
            rule 0 0 1 1 1 = 6
            rule 0 5999 2 2 2 = 6
            rule 0 20 2 2 2 = 6
            rule 1 30 1 1 1 = 2
            ofHouse 0 0 = 6
            undo = 7
            undo = 6
            undo = 5
            undo = 4
            undo = 3
            rule 0 30 1 1 1 = 6
            """);
    }

    private static void terms() {
        Edges.promise(10, NO_HOUSE, """
            terms 3 0 0 0 0 ! IOOBE
            terms -1 0 0 0 0 ! IOOBE
            terms 2 0 0 0 0 = 2
            """);
        Edges.promise(10, "Throws `IllegalArgumentException` if vest is not 0 to 20, normal not 0 to 1199, or early or late not 0 to 10", """
            terms 0 -1 0 0 0 ! IAE
            terms 0 21 0 0 0 ! IAE
            terms 0 0 -1 0 0 ! IAE
            terms 0 0 1200 0 0 ! IAE
            terms 0 0 0 -1 0 ! IAE
            terms 0 0 0 11 0 ! IAE
            terms 0 0 0 0 -1 ! IAE
            terms 0 0 0 0 11 ! IAE
            terms 0 0 -2147483648 0 2147483647 ! IAE
            ofHouse 0 1 = 2
            ofHouse 0 2 = 720
            terms 0 20 1199 10 10 = 2
            terms 0 0 0 0 0 = 20
            """);
    }

    private static void form() {
        Edges.promise(11, NO_HOUSE, """
            form 3 0 1 0 ! IOOBE
            form -1 0 1 0 ! IOOBE
            form 2 1 1 0 = 0
            """);
        Edges.promise(11, "Throws `IllegalArgumentException` if form is not 0 to 2, many not 1 to 10, or bound not 0 to 99999", """
            form 0 -1 1 0 ! IAE
            form 0 3 1 0 ! IAE
            form 0 0 0 0 ! IAE
            form 0 0 11 0 ! IAE
            form 0 0 -1 0 ! IAE
            form 0 0 1 -1 ! IAE
            form 0 0 1 100000 ! IAE
            form 0 1 0 0 ! IAE        # not used by ALL, and wrong all the same
            form 0 1 1 -1 ! IAE
            form 0 0 2147483647 -2147483648 ! IAE
            count 3 = 0
            form 0 2 10 99999 = 0
            form 0 0 1 0 = 2
            """);
        Edges.promise(11, "- `many`: of how many (1 to 10; not used by ALL)", """
            member 0 = 0
            spell 0 0 0 119 100 0 = 0
            wage 0 0 0 10 = 0
            wage 0 0 12 20 = 10
            form 0 1 1 99999 = 0
            base 0 0 2 = 180
            form 0 1 10 99999 = 1
            base 0 0 2 = 180
            form 0 0 1 99999 = 1
            base 0 0 2 = 240
            form 0 0 10 99999 = 0
            base 0 0 2 = 36
            form 0 2 1 99999 = 0
            base 0 0 2 = 240
            form 0 2 10 99999 = 2
            base 0 0 2 = 36
            """);
        Edges.promise(11, "- `bound`: the BOUND (used by LAST alone)", """
            member 0 = 0
            spell 0 0 0 119 100 0 = 0
            wage 0 0 0 10 = 0
            form 0 0 1 0 = 0
            base 0 0 2 = 120
            form 0 1 1 0 = 0
            base 0 0 2 = 120
            form 0 2 1 0 = 1
            base 0 0 2 = 0
            form 0 2 1 119 = 2
            base 0 0 2 = 119
            """);
    }

    private static void tie() {
        Edges.promise(12, "Throws `IndexOutOfBoundsException` if there is no such HOUSE (both)", """
            tie 3 0 true ! IOOBE
            tie 0 3 true ! IOOBE
            tie -1 0 false ! IOOBE
            tie 0 -1 false ! IOOBE
            tie 3 3 true ! IOOBE
            tie 2 0 true = 1
            """);
        Edges.promise(12, "Throws `IllegalArgumentException` if both are the same", """
            tie 0 0 true ! IAE
            tie 1 1 false ! IAE
            tie 2 2 true ! IAE
            count 3 = 0
            """);
        Edges.promise(12, "Two HOUSES are TIED, or not (as told by this call; they may still be so by the third one).", """
            tie 0 1 true = 1
            tie 1 2 true = 2
            tie 0 2 false = 2
            ofHouse 0 10 = 7
            tie 0 2 true = 3
            tie 0 2 true = 3
            tie 2 0 false = 2
            ofHouse 2 10 = 7
            tie 1 2 false = 1
            ofHouse 2 10 = 4
            ofHouse 0 10 = 3
            """);
    }

    private static final String FOUR = """
            member 0 = 0
            member 0 = 1
            member 0 = 2
            member 0 = 3
            """;

    private static void marry() {
        Edges.promise(13, "Throws `IndexOutOfBoundsException` if there is no such MEMBER (both)", """
            marry 0 1 0 ! IOOBE
            member 0 = 0
            marry 0 1 0 ! IOOBE
            marry 1 0 0 ! IOOBE
            marry 0 -1 0 ! IOOBE
            marry -1 0 0 ! IOOBE
            member 0 = 1
            marry 0 1 0 = 0
            """);
        Edges.promise(13, "Throws `IllegalArgumentException` if both are the same, or day is no DAY", FOUR + """
            marry 0 0 0 ! IAE
            marry 3 3 0 ! IAE
            marry 0 1 -1 ! IAE
            marry 0 1 6000 ! IAE
            marry 0 1 2147483647 ! IAE
            count 1 = 0
            marry 0 1 0 = 0
            marry 3 2 5999 = 1
            """);
        marryRefused();
    }

    private static final String CAN_NOT_MARRY = "Throws `IllegalStateException` if there are 4, or one of both died ahead of that DAY, or is"
        + " in a MARRIAGE that is DIVIDED from a later DAY on, or in one that is not DIVIDED and whose other one did not die ahead of that"
        + " DAY";

    private static void marryRefused() {
        Edges.promise(13, CAN_NOT_MARRY, FOUR + """
            marry 0 1 0 = 0
            divide 0 1 0 = 1
            marry 0 1 1 = 1
            divide 1 2 0 = 1
            marry 0 1 2 = 2
            divide 2 3 0 = 1
            marry 0 1 3 = 3
            marry 2 3 0 ! ISE            # there are four
            undo = 7
            marry 2 3 0 = 3
            """);
        Edges.promise(13, CAN_NOT_MARRY, FOUR + """
            death 0 50 = -1
            marry 0 1 51 ! ISE           # died ahead of it
            marry 1 0 51 ! ISE
            marry 1 0 5999 ! ISE
            marry 0 1 50 = 0             # not ahead of it
            """);
        Edges.promise(13, CAN_NOT_MARRY, FOUR + """
            marry 0 1 10 = 0
            divide 0 50 0 = 40
            marry 0 2 49 ! ISE           # divided from a later day on
            marry 2 0 49 ! ISE
            marry 1 2 49 ! ISE
            marry 2 1 9 ! ISE            # ahead of that marriage, and yet
            marry 2 3 49 = 1
            marry 0 1 50 = 2             # from that very day on
            """);
        Edges.promise(13, CAN_NOT_MARRY, FOUR + """
            marry 0 1 10 = 0
            marry 0 2 5999 ! ISE         # the other one lives
            marry 2 1 0 ! ISE
            death 1 50 = -1
            marry 0 2 50 ! ISE           # died, not ahead of it
            marry 3 0 50 ! ISE
            marry 0 2 51 = 1
            marry 1 3 50 ! ISE           # the other one of 1 lives
            death 0 5999 = -1
            marry 1 3 50 ! ISE
            """);
    }

    private static void divide() {
        Edges.promise(14, "Throws `IndexOutOfBoundsException` if there is no such MARRIAGE", FOUR + """
            divide 0 1 0 ! IOOBE
            marry 0 1 0 = 0
            divide 1 1 0 ! IOOBE
            divide -1 1 0 ! IOOBE
            divide 0 1 0 = 1
            """);
        Edges.promise(14, "Throws `IllegalArgumentException` if day is no DAY, or share not 0 to 100", FOUR + """
            marry 0 1 0 = 0
            divide 0 -1 0 ! IAE
            divide 0 6000 0 ! IAE
            divide 0 1 -1 ! IAE
            divide 0 1 101 ! IAE
            divide 0 0 101 ! IAE
            divide 0 5999 100 = 5999
            divide 0 5999 101 ! IAE
            """);
        Edges.promise(14, CAN_NOT_DIVIDE, FOUR + """
            marry 0 1 10 = 0
            divide 0 10 0 ! ISE          # not behind its beginning
            divide 0 0 0 ! ISE
            divide 0 11 0 = 1
            divide 0 12 0 ! ISE          # it is divided
            divide 0 11 0 ! ISE
            """);
        Edges.promise(14, CAN_NOT_DIVIDE, FOUR + """
            marry 0 1 10 = 0
            death 0 50 = -1
            divide 0 51 0 ! ISE
            divide 0 50 0 = 40
            undo = 6
            death 0 -1 = 50
            death 1 50 = -1
            divide 0 51 0 ! ISE
            divide 0 50 0 = 40
            """);
        Edges.promise(14, CAN_NOT_DIVIDE, FOUR + """
            marry 0 1 10 = 0
            death 1 50 = -1
            marry 2 0 60 = 1
            death 1 -1 = 50
            divide 0 61 0 ! ISE          # 0 is in another one from the day 60 on
            divide 0 60 0 = 50
            undo = 7
            divide 1 61 0 = 1            # that of the smaller number does not matter
            divide 0 61 0 ! ISE
            """);
        Edges.promise(14, CAN_NOT_DIVIDE, FOUR + """
            marry 0 1 10 = 0
            death 0 50 = -1
            marry 1 3 60 = 1
            death 0 -1 = 50
            divide 0 61 0 ! ISE          # so is 1
            divide 0 60 0 = 50
            """);
        Edges.promise(14, "Returns how many DAYS it was.", FOUR + """
            marry 0 1 0 = 0
            divide 0 5999 0 = 5999
            marry 2 3 5998 = 1
            divide 1 5999 0 = 1
            """);
    }

    private static final String CAN_NOT_DIVIDE = "Throws `IllegalStateException` if it is DIVIDED, or day is not behind the DAY from which on"
        + " it is, or one of both died ahead of that DAY, or is in a MARRIAGE with a greater number that is from an earlier DAY on";

    private static void widowsAndRaise() {
        Edges.promise(15, NO_HOUSE, """
            widows 3 0 ! IOOBE
            widows -1 0 ! IOOBE
            widows 2 0 = 60
            """);
        Edges.promise(15, "Throws `IllegalArgumentException` if part is not 0 to 100", """
            widows 0 -1 ! IAE
            widows 0 101 ! IAE
            widows 0 2147483647 ! IAE
            ofHouse 0 4 = 60
            widows 0 0 = 60
            widows 0 100 = 0
            """);
        Edges.promise(16, NO_HOUSE, """
            raise 3 0 0 ! IOOBE
            raise -1 0 0 ! IOOBE
            raise 2 0 0 = 5
            """);
        Edges.promise(16, "Throws `IllegalArgumentException` if top is not 0 to 30, or floor not -10 to top", """
            raise 0 0 -1 ! IAE
            raise 0 -2 -1 ! IAE
            raise 0 0 31 ! IAE
            raise 0 -11 0 ! IAE
            raise 0 1 0 ! IAE
            raise 0 31 30 ! IAE
            raise 0 -2147483648 2147483647 ! IAE
            ofHouse 0 6 = 5
            raise 0 -10 0 = 5
            raise 0 30 30 = 0
            raise 0 0 0 = 30
            raise 0 -10 30 = 0
            ofHouse 0 5 = -10
            """);
    }

    private static void bridge() {
        Edges.promise(17, NO_HOUSE, """
            bridge 3 0 0 ! IOOBE
            bridge -1 0 0 ! IOOBE
            bridge 2 0 0 = 0
            """);
        Edges.promise(17, "Throws `IllegalArgumentException` if coins is not 0 to 999, or age not 0 to 1199", """
            bridge 0 -1 0 ! IAE
            bridge 0 1000 0 ! IAE
            bridge 0 0 -1 ! IAE
            bridge 0 0 1200 ! IAE
            bridge 0 2147483647 0 ! IAE
            bridge 0 999 1199 = 0
            bridge 0 0 0 = 999
            ofHouse 0 7 = 0
            """);
    }

    private static void lessen() {
        Edges.promise(18, NO_HOUSE, """
            lessen 3 0 0 ! IOOBE
            lessen -1 0 0 ! IOOBE
            lessen 2 0 0 = 300
            """);
        Edges.promise(18, "Throws `IllegalArgumentException` if month is no MONTH, or points not -300 to 300", """
            lessen 0 -1 0 ! IAE
            lessen 0 1200 0 ! IAE
            lessen 0 0 -301 ! IAE
            lessen 0 0 301 ! IAE
            lessen 0 0 -2147483648 ! IAE
            ofHouse 0 8 = 0
            lessen 0 0 300 = 0
            lessen 0 1199 -300 = 300
            """);
        Edges.promise(18, "Throws `IllegalStateException` if 8 are told, and none for that beginning", """
            lessen 0 80 1 = 299
            lessen 0 10 2 = 298
            lessen 0 70 3 = 295
            lessen 0 20 4 = 294
            lessen 0 60 5 = 289
            lessen 0 30 6 = 288
            lessen 0 50 7 = 281
            lessen 0 40 8 = 280
            lessen 0 9 0 ! ISE
            lessen 0 45 0 ! ISE
            lessen 0 81 0 ! ISE
            lessen 0 80 0 = 299
            lessen 0 10 0 = 298
            lessen 0 40 0 = 280
            lessen 1 45 0 = 300
            undo = 7
            undo = 6
            undo = 5
            undo = 4
            undo = 3
            lessen 0 45 0 = 288
            """);
        Edges.promise(18, "Tells POINTS from a MONTH on: so many less than in that MONTH till now, but at least 0 and at most 300.", """
            lessen 0 10 0 = 300          # none less, and yet told
            ofHouse 0 8 = 1
            lessen 0 10 -1 = 300
            lessen 0 10 1 = 299
            lessen 0 10 -1 = 300
            lessen 0 10 299 = 1
            lessen 0 10 1 = 0
            lessen 0 10 1 = 0
            lessen 0 20 -300 = 300
            lessen 0 19 -5 = 5           # of 0, as from 10 on
            lessen 0 9 300 = 0
            ofClass 0 0 18 = 0
            ofClass 0 0 19 = 5
            ofClass 0 2 20 = 100
            """);
    }

    private static void annuity() {
        Edges.promise(19, NO_HOUSE, """
            annuity 3 0 1 ! IOOBE
            annuity -1 0 1 ! IOOBE
            annuity 2 0 1 = 20
            """);
        Edges.promise(19, "Throws `IllegalArgumentException` if age is not 0 to 99, or years not 1 to 40", """
            annuity 0 -1 1 ! IAE
            annuity 0 100 1 ! IAE
            annuity 0 0 0 ! IAE
            annuity 0 0 41 ! IAE
            annuity 0 0 -1 ! IAE
            annuity 0 2147483647 2147483647 ! IAE
            annuity 0 0 1 = 20
            annuity 0 99 40 = 1
            annuity 0 99 1 = 40
            """);
        Edges.promise(19, "Throws `IllegalStateException` if 6 are told, and none for that beginning", """
            annuity 0 60 1 = 20
            annuity 0 10 2 = 20
            annuity 0 50 3 = 2
            annuity 0 20 4 = 2
            annuity 0 40 5 = 4
            annuity 0 30 6 = 4
            annuity 0 9 7 ! ISE
            annuity 0 35 7 ! ISE
            annuity 0 61 7 ! ISE
            annuity 0 60 7 = 1
            annuity 0 10 7 = 2
            annuity 0 30 7 = 6
            annuity 1 35 7 = 20
            undo = 7
            undo = 6
            undo = 5
            undo = 4
            undo = 3
            annuity 0 35 7 = 4
            """);
        Edges.promise(19, "Returns ANNUITY of that AGE before.", """
            annuity 0 50 3 = 20
            annuity 0 49 4 = 20
            annuity 0 50 5 = 3
            annuity 0 99 6 = 5
            annuity 0 0 7 = 20
            """);
    }

    private static void go() {
        Edges.promise(20, NO_MEMBER_OR_HOUSE, """
            go 0 0 0 0 ! IOOBE
            member 0 = 0
            terms 2 0 0 0 0 = 2
            go 1 2 0 0 ! IOOBE
            go -1 2 0 0 ! IOOBE
            go 0 3 0 0 ! IOOBE
            go 0 -1 0 0 ! IOOBE
            go 0 2 0 0 = 0
            """);
        Edges.promise(20, "Throws `IllegalArgumentException` if month is no MONTH, or rank not 0 to 2", """
            member 0 = 0
            terms 0 0 0 0 0 = 2
            terms 1 0 0 0 0 = 2
            go 0 0 -1 0 ! IAE
            go 0 0 1200 0 ! IAE
            go 0 0 0 -1 ! IAE
            go 0 0 0 3 ! IAE
            go 0 0 2147483647 0 ! IAE
            count 2 = 0
            go 0 0 0 0 = 0
            go 0 1 1199 2 = 1
            """);
        Edges.promise(20, CAN_NOT_GO, """
            member 0 = 0
            member 0 = 1
            member 0 = 2
            terms 0 0 0 0 0 = 2
            terms 1 0 0 0 0 = 2
            terms 2 0 0 0 0 = 2
            go 0 0 0 0 = 0
            go 0 0 0 0 ! ISE             # one of that member at that house
            go 0 0 7 1 ! ISE
            go 0 1 0 0 = 1
            go 1 0 0 0 = 2
            go 1 1 0 0 = 3
            go 1 2 0 0 = 4
            go 0 2 0 0 = 5
            go 2 0 0 0 ! ISE             # there are six
            undo = 7
            go 2 0 0 0 = 5
            """);
        Edges.promise(20, CAN_NOT_GO, """
            member 0 = 0
            spell 0 0 1 120 100 0 = 0
            go 0 0 24 0 ! ISE            # of 11900
            go 0 0 25 0 = 0
            go 0 1 25 0 ! ISE
            tie 1 0 true = 1
            go 0 1 24 0 ! ISE
            go 0 1 25 0 = 1
            """);
        Edges.promise(20, CAN_NOT_GO, """
            member 0 = 0
            terms 0 0 0 0 0 = 2
            death 0 49 = -1
            go 0 0 10 0 ! ISE            # died ahead of the day 50
            go 0 0 1199 0 ! ISE
            death 0 50 = 49
            go 0 0 11 0 ! ISE
            go 0 0 10 0 = 0              # on it, and not ahead
            """);
    }

    private static final String CAN_NOT_GO = "Throws `IllegalStateException` if there are 6, or one of that MEMBER at that HOUSE, if it is not"
        + " OWN ahead of the first DAY of that MONTH, or the MEMBER died ahead of it";

    private static void payOut() {
        Edges.promise(21, "Throws `IndexOutOfBoundsException` if there is no such STREAM", """
            payOut 0 ! IOOBE
            member 0 = 0
            terms 0 0 0 0 0 = 2
            go 0 0 0 0 = 0
            payOut 1 ! IOOBE
            payOut -1 ! IOOBE
            payOut 6 ! IOOBE
            payOut -2147483648 ! IOOBE
            payOut 0 = 0
            """);
        Edges.promise(21, "Throws `IllegalStateException` if there were 24, or there is no next MONTH", """
            member 0 = 0
            terms 0 0 0 0 0 = 2
            terms 1 0 0 0 0 = 2
            terms 2 0 0 0 0 = 2
            go 0 0 0 0 = 0
            go 0 1 1199 0 = 1
            go 0 2 1176 0 = 2
            x24: payOut 0 = 0
            payOut 0 ! ISE
            payOut 1 = 0
            payOut 1 ! ISE               # the month 1200 is none
            ofStream 1 4 = 1
            x24: payOut 2 = 0            # 1176 to 1199
            payOut 2 ! ISE
            """);
        Edges.promise(21, "Returns what is PAID.", """
            member 0 = 0
            terms 0 0 0 0 0 = 2
            bridge 0 10 1199 = 0
            go 0 0 0 0 = 0
            payOut 0 = 10
            bridge 0 4 1199 = 10
            payOut 0 = 0                 # 4, less 6
            ofStream 0 6 = -2
            payOut 0 = 2
            bridge 0 5 1199 = 4
            payOut 0 = 8                 # 5, and 3 times 1
            bridge 0 0 1199 = 5
            payOut 0 = 0
            ofStream 0 6 = -20
            count 8 = 20
            """);
    }

    private static void interest() {
        Edges.promise(22, "Throws `IllegalArgumentException` if rate is not 0 to 10", """
            interest -1 ! IAE
            interest 11 ! IAE
            interest -2147483648 ! IAE
            interest 2147483647 ! IAE
            count 4 = 0
            interest 0 = 0
            interest 10 = 0
            interest 10 = 10
            """);
    }

    private static void enter() {
        Edges.promise(23, NO_MEMBER_OR_HOUSE, """
            enter 0 0 ! IOOBE
            member 0 = 0
            type 0 10 0 11 1 12 = 6
            enter 1 0 ! IOOBE
            enter -1 0 ! IOOBE
            enter 0 3 ! IOOBE
            enter 0 -1 ! IOOBE
            typed = 0-0:1w
            enter 0 2 = 0
            """);
        Edges.promise(23, "Returns its number; -2 less FAULT, if there is one; -50, if spell() would refuse it.", """
            member 5 = 0
            enter 0 0 = -2               # nothing is typed
            type 0 0 0 0 10 0 = 6
            enter 0 0 = -8
            type 0 0 0 11 0 0 = 12
            type 1 -1 -1 -1 -1 -1 = 13
            enter 0 0 = -15              # the kind is missing
            type 12 -1 -1 -1 -1 -1 = 14
            enter 0 0 = -50              # ahead of its birth
            type 15 15 -1 -1 -1 -1 = 12
            type 1 1 -1 -1 -1 -1 = 14
            enter 0 0 = -15              # a fourth digit
            type 16 12 -1 -1 -1 -1 = 1
            enter 0 0 = -2
            count 3 = 1
            type 16 5 10 5 11 0 = 5
            type 12 -1 -1 -1 -1 -1 = 6
            enter 0 0 = -50              # a part of 0
            type 15 15 1 0 1 12 = 8
            enter 0 0 = -50              # of 101
            type 15 15 0 12 -1 -1 = 8
            enter 0 0 = 0
            typed =
            type 6 10 5 11 1 13 = 6
            enter 0 0 = -50              # TO is ahead of FROM
            type 16 6 0 0 0 10 = 5
            type 6 0 0 0 11 1 = 11
            type 14 -1 -1 -1 -1 -1 = 12
            enter 0 0 = -50              # no day
            type 16 5 10 5 9 9 = 5
            type 9 11 1 14 -1 -1 = 9
            enter 0 0 = 1                # to the last day
            line 0 1 = 5-5999:1g
            x8: spell 0 1 5 5 1 0 = _
            type 5 10 5 11 1 12 = 6
            enter 0 0 = -50              # it has ten
            typed = 5-5:1w
            unspell 0 0 = 9
            enter 0 0 = 9
            """);
        Edges.promise(23, "What is TYPED comes as a SPELL; if it comes, nothing is TYPED then.", """
            member 0 = 0
            type 0 0 0 9 10 9 = 6
            enter 0 1 = -8
            typed = 0009-9
            type 11 0 0 7 13 -1 = 11
            enter 0 1 = 0
            typed =
            count 5 = 0
            fault = 0
            line 0 0 = 9-9:7r
            has 0 1 9 = 7
            """);
    }

    private static void type() {
        Edges.promise(24, "Throws `IllegalArgumentException` if one is not -1 to 16", """
            type -2 0 0 0 0 0 ! IAE
            type 0 -2 0 0 0 0 ! IAE
            type 0 0 -2 0 0 0 ! IAE
            type 0 0 0 -2 0 0 ! IAE
            type 0 0 0 0 -2 0 ! IAE
            type 0 0 0 0 0 -2 ! IAE
            type 17 0 0 0 0 0 ! IAE
            type 0 17 0 0 0 0 ! IAE
            type 0 0 17 0 0 0 ! IAE
            type 0 0 0 17 0 0 ! IAE
            type 0 0 0 0 17 0 ! IAE
            type 0 0 0 0 0 17 ! IAE
            type 2147483647 0 0 0 0 -2147483648 ! IAE
            typed =
            type -1 0 14 15 16 -1 = 0
            type -1 0 14 15 -1 -1 = 1
            """);
        Edges.promise(24, "Throws `IllegalStateException` if there would be more than 14 at some moment", """
            type 1 1 1 1 1 1 = 6
            type 2 2 2 2 2 2 = 12
            type 3 3 3 -1 -1 -1 ! ISE
            type 3 3 3 15 15 15 ! ISE        # too many for a moment
            type 3 3 3 16 -1 -1 ! ISE
            typed = 111111222222
            type 3 3 15 3 15 3 = 14
            typed = 11111122222233
            type -1 -1 -1 -1 -1 0 ! ISE
            type 15 4 15 5 15 6 = 14
            typed = 11111122222236
            type 16 1 2 3 4 5 = 5
            """);
        Edges.promise(24, "- `a`: a SIGN; 15: the last one goes (if there is one), 16: all go, NONE: nothing", """
            type 15 15 15 15 15 15 = 0
            type 16 16 -1 -1 -1 -1 = 0
            type 7 15 15 8 -1 -1 = 1
            typed = 8
            type 9 16 -1 1 -1 2 = 2
            typed = 12
            type -1 -1 -1 -1 -1 -1 = 2
            type 16 -1 -1 -1 -1 -1 = 0
            typed =
            """);
    }

    private static void undoAndKnock() {
        Edges.promise(25, "Throws `IllegalStateException` if none can", """
            undo ! ISE
            knock = 1
            type 1 -1 -1 -1 -1 -1 = 1
            undo ! ISE                       # these are no changes
            member 0 = 0
            undo = 0
            undo ! ISE
            x9: interest 1 = _
            undo = 7
            undo = 6
            undo = 5
            undo = 4
            undo = 3
            undo = 2
            undo = 1
            undo = 0
            undo ! ISE                       # the ninth one is too long ago
            count 4 = 1
            """);
        Edges.promise(25, "Returns how many can be UNDONE then.", """
            interest 1 = 0
            undo = 0
            interest 1 = 0
            interest 2 = 1
            undo = 1
            undo = 0
            x20: interest 3 = _
            undo = 7
            interest 4 = 3
            interest 5 = 4
            undo = 7
            count 4 = 4
            """);
        Edges.promise(25, "Undoes the last CHANGE.", """
            member 0 = 0
            member 0 = 1
            spell 1 0 0 5999 100 0 = 0
            wage 1 0 0 500 = 0
            death 1 100 = -1
            undo = 4
            undo = 3
            undo = 2
            undo = 1
            ofMember 1 0 ! IOOBE
            member 10 = 1                    # another one, of whom nothing is known
            ofMember 1 0 = 10
            ofMember 1 1 = -1
            ofMember 1 2 = 0
            has 1 0 50 = 0
            wage 1 0 0 5 = 0
            marry 0 1 20 = 0
            divide 0 30 40 = 10
            undo = 4
            undo = 3
            marry 1 0 25 = 0
            ofMarriage 0 0 = 1
            ofMarriage 0 2 = 25
            ofMarriage 0 3 = -1
            ofMarriage 0 4 = -1
            """);
        Edges.promise(25, "Undoes the last CHANGE.", """
            member 0 = 0
            terms 0 0 0 0 0 = 2
            bridge 0 10 1199 = 0
            go 0 0 0 0 = 0
            payOut 0 = 10
            bridge 0 1 1199 = 10
            payOut 0 = 0
            ofStream 0 6 = -8
            undo = 6
            ofStream 0 6 = 0
            ofStream 0 7 = 10
            payOut 0 = 0
            undo = 6
            undo = 5
            undo = 4
            undo = 3
            go 0 0 5 2 = 0
            ofStream 0 2 = 5
            ofStream 0 3 = 2
            ofStream 0 4 = 0
            ofStream 0 5 = 0
            ofStream 0 6 = 0
            ofStream 0 7 = 0
            """);
        Edges.promise(26, "Returns how often one knocked, with this.", """
            count 6 = 0
            knock = 1
            count 6 = 1
            x98: knock = _
            knock = 100
            undo ! ISE
            interest 1 = 0
            undo = 0
            knock = 101
            """);
    }
}
