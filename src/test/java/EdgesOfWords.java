/** The sentences of the description, one by one, at their edges; the answers were reckoned by hand. */
final class EdgesOfWords {
    private EdgesOfWords() {
    }

    static void run() {
        start();
        days();
        spells();
        wages();
        bases();
        rules();
        rights();
        spouses();
        widows();
        levels();
        values();
        streams();
        payments();
        lines();
        steps();
    }

    /** Ten years of a hundred, at 500 a month, by ALL: the pension is 100 from the month 120 on. */
    private static final String RETIRED = """
            member 0 = 0
            terms 0 2 0 0 0 = 2
            spell 0 0 0 599 100 0 = 0
            wage 0 0 0 500 = 0
            form 0 1 1 0 = 0
            pension 0 0 120 = 100
            """;

    /** Two hundred days of a hundred, at 600 a month, by LAST of 1: a fifth of a coin for each day, if it ends in the year 3. */
    private static final String COUPLE = """
            member 0 = 0
            member 0 = 1
            member 0 = 2
            terms 0 0 0 0 0 = 2
            spell 0 0 0 199 100 0 = 0
            wage 0 0 0 600 = 0
            form 0 2 1 99999 = 0
            pension 0 0 36 = 36
            """;

    private static void start() {
        Edges.words("An object is used for at most 512 calls after it has been made; what later calls answer is free.", """
            member 0 = 0
            x509: knock = _
            knock = 510
            ofMember 0 0 = 0     # the last one
            """);
        Edges.words("NONE is -1.", """
            member 0 = 0
            ofMember 0 1 = -1
            ofMember 0 3 = -1
            death 0 0 = -1
            death 0 -1 = 0
            death 0 -2 ! IAE
            type -1 -1 -1 -1 -1 -1 = 0
            type -2 -1 -1 -1 -1 -1 ! IAE
            """);
        Edges.words("Fractions are exact, and told in lowest terms: \"3/4\", \"0\", \"-2/3\", \"5\" (if it is whole).", """
            member 0 = 0
            earned 0 0 5999 = 0
            spell 0 0 0 5999 100 0 = 0
            rule 0 0 50 60 0 = 1
            earned 0 0 0 = 0
            earned 0 0 1 = 1/1200
            earned 0 0 900 = 3/4
            earned 0 0 1200 = 1
            earned 0 0 3600 = 3
            earned 0 0 3599 = 3599/1200
            """);
        Edges.words("Rounded down: to the next whole number that is not greater.", RETIRED + """
            go 0 0 120 0 = 0
            wage 0 0 0 499 = 500
            due 0 120 = 99         # 99.8
            wage 0 0 0 500 = 499
            due 0 120 = 100        # a whole one stays
            payOut 0 = 100
            interest 1 = 0
            wage 0 0 0 495 = 500
            payOut 0 = 97          # 99, and -1.001, that is -2
            """);
        Edges.words("Of several the one with the smallest number is taken, if nothing else is said.", RETIRED + """
            best 0 1 7 43 100 = 7          # all are 0
            terms 0 2 120 0 10 = 2
            best 0 0 130 150 261 = 140     # 1200 * 121 is 1210 * 120
            best 0 0 141 150 261 = 141
            terms 0 0 0 0 0 = 2
            wage 0 0 0 1 = 500
            form 0 0 10 0 = 1
            best 0 0 12 20 30 = 15         # 75/30000 times 15: all come to less than 1
            """);
        Edges.words("What is told \"from .. on\" holds until the next such begins; told again for the same beginning it comes"
            + " in the place of that one.", """
            price 10 200 = 100
            price 20 400 = 200
            price 19 5 = 200      # till now the one before held up to there
            price 99 6 = 400
            price 9 7 = 100
            price 20 8 = 400
            price 20 9 = 8
            price 21 1 = 9
            count 7 = 6
            """);
        Edges.words("A method that throws an exception changes nothing.", RETIRED + """
            type 1 10 2 11 3 12 = 6
            go 0 0 120 0 = 0
            payOut 0 = 100
            member 6000 ! IAE
            spell 0 0 9 8 1 0 ! IAE
            unspell 0 1 ! IOOBE
            cut 0 0 600 ! IAE
            death 0 6000 ! IAE
            wage 0 0 0 10000 ! IAE
            price 0 0 ! IAE
            rule 0 0 1 61 1 ! IAE
            terms 0 1 1 1 11 ! IAE
            form 0 1 11 1 ! IAE
            tie 0 0 true ! IAE
            marry 0 1 0 ! IOOBE
            divide 0 1 1 ! IOOBE
            widows 0 101 ! IAE
            raise 0 2 1 ! IAE
            bridge 0 1 1200 ! IAE
            lessen 0 0 301 ! IAE
            annuity 0 0 41 ! IAE
            go 0 0 130 1 ! ISE
            payOut 1 ! IOOBE
            interest 11 ! IAE
            enter 0 3 ! IOOBE
            type 16 16 16 16 16 17 ! IAE
            count 3 = 7
            count 5 = 6
            undo = 6
            undo = 5
            undo = 4
            undo = 3
            undo = 2
            undo = 1
            undo = 0
            undo ! ISE
            typed = 1-2:3w
            """);
        namedFirst();
    }

    private static void namedFirst() {
        Edges.words("If several exceptions apply, the one that is named first is thrown.", FULL + """
            member 6000 ! IAE
            spell 4 0 6000 0 0 3 ! IOOBE
            spell 0 3 0 6000 0 3 ! IOOBE
            spell 0 0 4 9 1 3 ! IAE
            unspell 4 10 ! IOOBE
            cut 0 10 0 ! IOOBE
            cut 0 0 5 ! IAE
            death 4 -2 ! IOOBE
            wage 4 0 1200 -1 ! IOOBE
            wage 0 0 7 -1 ! IAE
            price 7 0 ! IAE
            rule 3 6000 51 61 51 ! IOOBE
            rule 0 7 51 1 1 ! IAE
            terms 3 21 1200 11 11 ! IOOBE
            form -1 3 0 -1 ! IOOBE
            tie 3 3 true ! IOOBE
            marry 4 4 6000 ! IOOBE
            marry 0 0 9 ! IAE
            divide 4 6000 101 ! IOOBE
            divide 0 1 101 ! IAE
            widows 3 101 ! IOOBE
            raise 3 1 0 ! IOOBE
            bridge 3 1000 1200 ! IOOBE
            lessen 3 1200 301 ! IOOBE
            lessen 0 7 301 ! IAE
            annuity 3 100 0 ! IOOBE
            annuity 0 7 0 ! IAE
            go 0 3 1200 3 ! IOOBE
            go 0 0 0 3 ! IAE
            payOut 6 ! IOOBE
            type 17 0 0 0 0 0 ! IAE
            has 4 0 6000 ! IOOBE
            time 0 3 9 8 ! IOOBE
            worked 4 0 1200 ! IOOBE
            yearPay 0 3 100 100 ! IOOBE
            base 4 0 100 ! IOOBE
            earned 0 3 6000 ! IOOBE
            isOwn 4 0 6000 ! IOOBE
            factor 0 3 1200 ! IOOBE
            pension 4 0 1200 ! IOOBE
            face 0 3 1200 ! IOOBE
            kept 4 0 1200 1200 ! IOOBE
            given 4 4 0 1200 1200 ! IOOBE
            given 0 0 3 1200 1200 ! IOOBE
            level 3 100 0 ! IOOBE
            ofClass 0 3 1200 ! IOOBE
            value 4 0 1200 ! IOOBE
            transferred 0 0 3 1200 ! IOOBE
            lump 0 3 1200 101 ! IOOBE
            lump 4 0 1200 101 ! IOOBE
            best 4 0 9 8 7 ! IOOBE
            wouldEarn 4 0 9 8 0 ! IOOBE
            wouldEarn 0 0 4 9 0 ! IAE
            due 6 1200 ! IOOBE
            ofStream 6 8 ! IOOBE
            ofMember 4 5 ! IOOBE
            ofMarriage 4 5 ! IOOBE
            ofHouse 3 11 ! IOOBE
            undo = 7
            then 9 4 3 6000 ! IAE
            then 8 4 3 6000 ! IAE
            then 8 4 3 0 ! ISE
            """);
    }

    /** A ledger in which there are as many of everything as there can be. */
    static final String FULL = """
            member 5 = 0
            member 5 = 1
            member 5 = 2
            member 5 = 3
            x10: spell 0 0 5 604 100 0 = _
            wage 0 0 10 1 = 0
            wage 0 0 20 2 = 1
            wage 0 0 30 3 = 2
            wage 0 0 40 4 = 3
            wage 0 0 50 5 = 4
            wage 0 0 60 6 = 5
            wage 0 0 70 7 = 6
            wage 0 0 80 8 = 7
            price 10 1 = 100
            price 15 2 = 1
            price 20 3 = 2
            price 25 4 = 3
            price 30 5 = 4
            price 35 6 = 5
            price 40 7 = 6
            price 45 8 = 7
            price 50 9 = 8
            price 55 10 = 9
            price 60 11 = 10
            price 65 12 = 11
            rule 0 10 1 1 1 = 2
            rule 0 20 1 1 1 = 3
            rule 0 30 1 1 1 = 4
            rule 0 40 1 1 1 = 5
            rule 0 50 1 1 1 = 6
            marry 0 1 10 = 0
            divide 0 20 1 = 10
            marry 0 2 30 = 1
            divide 1 40 1 = 10
            marry 0 3 50 = 2
            divide 2 60 1 = 10
            marry 1 2 70 = 3
            lessen 0 10 1 = 299
            lessen 0 20 1 = 298
            lessen 0 30 1 = 297
            lessen 0 40 1 = 296
            lessen 0 50 1 = 295
            lessen 0 60 1 = 294
            lessen 0 70 1 = 293
            lessen 0 80 1 = 292
            annuity 0 10 1 = 20
            annuity 0 20 2 = 1
            annuity 0 30 3 = 2
            annuity 0 40 4 = 3
            annuity 0 50 5 = 4
            annuity 0 60 6 = 5
            terms 0 0 0 0 0 = 2
            terms 1 0 0 0 0 = 2
            terms 2 0 0 0 0 = 2
            go 0 0 120 0 = 0
            go 0 1 120 0 = 1
            go 0 2 120 0 = 2
            go 1 0 120 0 = 3
            go 1 1 120 0 = 4
            go 1 2 120 0 = 5
            x24: payOut 5 = 0
            type 1 2 3 4 10 5 = 6
            type 6 7 8 11 1 0 = 12
            type 0 12 -1 -1 -1 -1 = 14
            """;

    private static void days() {
        Edges.words("DAYS are 0 to 5999; a MONTH has 5 DAYS, a YEAR 12 MONTHS: the MONTH of a DAY is DAY / 5 (0 to 1199), its"
            + " YEAR is DAY / 60 (0 to 99).", """
            member 0 = 0
            has 0 0 -1 ! IAE
            has 0 0 0 = 0
            has 0 0 5999 = 0
            has 0 0 6000 ! IAE
            worked 0 0 -1 ! IAE
            worked 0 0 1199 = 0
            worked 0 0 1200 ! IAE
            base 0 0 -1 ! IAE
            base 0 0 99 = 0
            base 0 0 100 ! IAE
            spell 0 0 4 5 100 0 = 0
            spell 0 0 59 60 100 0 = 1
            spell 0 0 5999 5999 100 0 = 2
            worked 0 0 0 = 100
            worked 0 0 1 = 100
            worked 0 0 2 = 0
            worked 0 0 11 = 100
            worked 0 0 12 = 100
            worked 0 0 1198 = 0
            worked 0 0 1199 = 100
            wage 0 0 0 500 = 0
            yearPay 0 0 0 0 = 300    # the days 4, 5 and 59
            yearPay 0 0 1 1 = 100
            yearPay 0 0 98 98 = 0
            yearPay 0 0 99 99 = 100
            """);
        Edges.words("At most 4 MEMBERS, numbered from 0, each with a BIRTH (a DAY); it lives, or died on a DAY.", """
            count 0 = 0
            ofMember 0 0 ! IOOBE
            member 0 = 0
            member 5999 = 1
            member 30 = 2
            member 30 = 3
            member 30 ! ISE
            count 0 = 4
            ofMember 0 0 = 0
            ofMember 1 0 = 5999
            ofMember 4 0 ! IOOBE
            ofMember 1 1 = -1
            death 1 5999 = -1
            death 0 0 = -1
            ofMember 0 1 = 0
            ofMember 1 1 = 5999
            """);
        Edges.words("Its AGE in a MONTH is that MONTH less the MONTH of its BIRTH (below 0, if that is later).", """
            member 9 = 0
            member 10 = 1
            member 5999 = 2
            terms 0 0 0 10 0 = 2
            factor 0 0 1 = 1000
            factor 0 0 0 = 990        # one month below 0
            factor 1 0 2 = 1000
            factor 1 0 1 = 990
            factor 2 0 1199 = 1000
            factor 2 0 1100 = 10
            factor 2 0 1099 = 0
            factor 2 0 0 = 0
            """);
        Edges.words("HOUSES are 0 to 2.", """
            ofHouse -1 0 ! IOOBE
            ofHouse 0 0 = 1
            ofHouse 1 0 = 1
            ofHouse 2 0 = 1
            ofHouse 3 0 ! IOOBE
            ofHouse -2147483648 0 ! IOOBE
            ofHouse 2147483647 0 ! IOOBE
            """);
    }

    private static void spells() {
        Edges.words("SPELLS of a MEMBER, at most 10, numbered from 0 as they came (if one goes, those behind it move up): a HOUSE,"
            + " FROM and TO (DAYS, it has both and all between), a PART (1 to 100 hundredths), a KIND: 0 WORK, 1 REST, 2 GAP.", """
            member 0 = 0
            spell 0 0 10 10 1 0 = 0
            spell 0 1 20 22 100 1 = 1
            spell 0 2 30 31 50 2 = 2
            has 0 0 9 = 0
            has 0 0 10 = 1
            has 0 0 11 = 0
            has 0 1 19 = 0
            has 0 1 20 = 100
            has 0 1 21 = 100
            has 0 1 22 = 100
            has 0 1 23 = 0
            has 0 2 30 = 0
            spell 0 0 0 0 0 0 ! IAE
            spell 0 0 0 0 101 0 ! IAE
            spell 0 0 0 0 1 -1 ! IAE
            spell 0 0 0 0 1 3 ! IAE
            x7: spell 0 0 40 50 5 0 = _
            ofMember 0 2 = 10
            spell 0 0 40 50 5 0 ! ISE
            line 0 9 = 40-50:5w
            line 0 10 ! IOOBE
            unspell 0 0 = 9
            line 0 0 = 20-22:100r
            line 0 1 = 30-31:50g
            line 0 8 = 40-50:5w
            line 0 9 ! IOOBE
            spell 0 0 60 60 5 0 = 9
            unspell 0 9 = 9
            line 0 8 = 40-50:5w
            """);
        Edges.words("SPELLS of a MEMBER, at most 10", """
            member 0 = 0
            death 0 290 = -1
            spell 0 0 30 34 10 0 = 0
            spell 0 0 60 64 20 0 = 1
            spell 0 0 90 94 30 1 = 2
            spell 0 0 120 124 40 0 = 3
            spell 0 0 150 154 50 0 = 4
            spell 0 1 180 184 60 1 = 5
            spell 0 2 210 214 70 0 = 6
            spell 0 0 240 244 80 0 = 7
            spell 0 0 270 274 90 0 = 8
            spell 0 0 5 9 99 0 = 9
            time 0 0 5 9 = 495
            time 0 0 0 29 = 495
            time 0 0 30 59 = 50
            time 0 0 60 89 = 100
            time 0 0 90 119 = 150
            time 0 0 120 149 = 200
            time 0 0 150 179 = 250
            time 0 1 180 209 = 300
            time 0 2 210 239 = 350
            time 0 0 240 269 = 400
            time 0 0 270 5999 = 450
            time 0 0 0 5999 = 2095
            wouldEarn 0 0 285 295 100 = 539/60000    # one more, of six days: 2695 hundredths of a day
            """);
        Edges.words("RAW of a MEMBER at a HOUSE on a DAY: 0, if a GAP there has the DAY, or the MEMBER died ahead of it; otherwise"
            + " the greatest PART of the WORK and REST there that have the DAY (0 without).", """
            member 0 = 0
            spell 0 0 10 20 40 0 = 0
            spell 0 0 20 30 90 1 = 1
            spell 0 0 15 15 1 2 = 2
            spell 0 0 28 28 100 0 = 3
            has 0 0 9 = 0
            has 0 0 10 = 40
            has 0 0 14 = 40
            has 0 0 15 = 0
            has 0 0 16 = 40
            has 0 0 20 = 90
            has 0 0 27 = 90
            has 0 0 28 = 100
            has 0 0 30 = 90
            has 0 0 31 = 0
            death 0 28 = -1
            has 0 0 28 = 100      # it died on it, not ahead of it
            has 0 0 29 = 0
            death 0 0 = 28
            has 0 0 10 = 0
            """);
        Edges.words("HAS: RAW, but of HOUSE by HOUSE only as much as all with smaller numbers, that it HAS there, leave of 100.", """
            member 0 = 0
            spell 0 0 0 0 99 0 = 0
            spell 0 1 0 0 99 1 = 1
            spell 0 2 0 0 99 0 = 2
            has 0 0 0 = 99
            has 0 1 0 = 1
            has 0 2 0 = 0
            spell 0 0 1 1 100 0 = 3
            spell 0 1 1 1 1 0 = 4
            spell 0 2 1 1 1 0 = 5
            has 0 0 1 = 100
            has 0 1 1 = 0
            has 0 2 1 = 0
            spell 0 0 2 2 50 0 = 6
            spell 0 1 2 2 49 0 = 7
            spell 0 2 2 2 2 0 = 8
            has 0 1 2 = 49
            has 0 2 2 = 1
            spell 0 1 0 0 1 2 = 9
            has 0 1 0 = 0
            has 0 2 0 = 1         # what the gap leaves
            """);
        Edges.words("WORKED: the smaller one of what it HAS and the greatest PART of the WORK there that has the DAY (0 without).", """
            member 0 = 0
            spell 0 0 0 0 60 0 = 0
            spell 0 0 0 0 80 1 = 1
            has 0 0 0 = 80
            worked 0 0 0 = 60     # less than it has
            spell 0 1 0 0 70 0 = 2
            worked 0 1 0 = 20     # all that it has
            spell 0 1 1 1 70 1 = 3
            worked 0 1 0 = 20     # rest alone is no work
            worked 0 2 0 = 0
            spell 0 0 0 0 61 0 = 4
            worked 0 0 0 = 61
            spell 0 0 0 0 1 2 = 5
            worked 0 0 0 = 0
            worked 0 1 0 = 70
            """);
        Edges.words("TIME: the sum of what it HAS on some DAYS (so 6000 hundredths are a YEAR).", """
            member 0 = 0
            time 0 0 0 5999 = 0
            spell 0 0 60 119 100 0 = 0
            time 0 0 60 119 = 6000
            time 0 0 0 59 = 0
            time 0 0 120 5999 = 0
            time 0 0 119 119 = 100
            spell 0 1 0 5999 100 0 = 1
            time 0 1 0 5999 = 594000
            unspell 0 0 = 1
            time 0 1 0 5999 = 600000
            """);
    }

    private static void wages() {
        Edges.words("WAGE of a MEMBER at a HOUSE: told from a MONTH on, 0 to 9999 coins a MONTH (0 ahead of the first; at most 8"
            + " are told).", """
            member 0 = 0
            spell 0 0 0 5999 100 0 = 0
            wage 0 0 6 -1 ! IAE
            wage 0 0 6 10000 ! IAE
            wage 0 0 6 9999 = 0
            yearPay 0 0 0 0 = 59994     # six months, none ahead of the first
            wage 0 0 7 0 = 9999
            yearPay 0 0 0 0 = 9999
            yearPay 0 0 1 1 = 0
            wage 0 0 1199 1 = 0
            yearPay 0 0 99 99 = 1
            wage 0 0 0 2 = 0
            wage 0 0 5 3 = 2
            yearPay 0 0 0 0 = 10012
            wage 0 0 20 1 = 0
            wage 0 0 21 1 = 1
            wage 0 0 22 1 = 1
            wage 0 0 23 1 ! ISE         # eight are told
            wage 0 0 22 4 = 1
            yearPay 0 0 1 1 = 10
            """);
        Edges.words("PRICE: told from a YEAR on, 1 to 9999 (100 ahead of the first; at most 12 are told).", """
            price 99 0 ! IAE
            price 99 10000 ! IAE
            price 99 1 = 100
            price 98 9999 = 100
            price 0 1 = 100
            price 1 2 = 1
            price 2 2 = 2
            price 3 2 = 2
            price 4 2 = 2
            price 5 2 = 2
            price 6 2 = 2
            price 7 2 = 2
            price 8 2 = 2
            price 9 2 = 2
            count 7 = 12
            price 10 2 ! ISE
            price 9 3 = 2
            count 7 = 12
            level 0 9 97 ! IAE
            level 0 90 97 = 1          # as from the year 9 on
            """);
        Edges.words("YEAR PAY of a MEMBER at a HOUSE: the sum over the MONTHS of a YEAR of WAGE times what is WORKED on the DAYS of"
            + " that MONTH, together, divided by 500.", """
            member 0 = 0
            spell 0 0 0 5999 100 0 = 0
            yearPay 0 0 0 0 = 0
            wage 0 0 0 9999 = 0
            yearPay 0 0 0 0 = 119988
            yearPay 0 0 99 99 = 119988
            wage 0 0 11 1 = 9999
            yearPay 0 0 0 0 = 109990    # by the month
            yearPay 0 0 1 1 = 12
            unspell 0 0 = 0
            yearPay 0 0 0 0 = 0
            spell 0 0 59 59 1 0 = 0
            yearPay 0 0 0 0 = 1/500     # the least
            spell 0 0 54 54 1 0 = 1
            yearPay 0 0 0 0 = 20
            """);
        Edges.words("RAISED to another YEAR: times PRICE of that one, divided by PRICE of its own.", """
            member 0 = 0
            spell 0 0 0 5999 100 0 = 0
            wage 0 0 0 9999 = 0
            price 0 1 = 100
            price 50 9999 = 1
            yearPay 0 0 0 0 = 119988
            yearPay 0 0 49 0 = 119988
            yearPay 0 0 0 50 = 1199760012
            yearPay 0 0 50 49 = 12
            yearPay 0 0 99 50 = 119988
            """);
    }

    private static void bases() {
        Edges.words("BASE of a MEMBER at a HOUSE for a YEAR, by the FORM of the HOUSE: 0 BEST (at first, of 3): the sum of so many"
            + " greatest ones of what the YEAR PAYS of YEARS ahead of it come to, RAISED to it, divided by that number (also if there"
            + " are fewer).", """
            member 0 = 0
            spell 0 0 0 599 100 0 = 0
            wage 0 0 0 10 = 0
            base 0 0 0 = 0         # none is ahead of it
            base 0 0 1 = 40        # one, over three
            base 0 0 2 = 80
            base 0 0 3 = 120
            base 0 0 4 = 120
            base 0 0 99 = 120
            form 0 0 10 0 = 0
            base 0 0 1 = 12
            base 0 0 9 = 108       # nine, over ten
            base 0 0 10 = 120
            base 0 0 99 = 120
            form 0 0 1 0 = 0
            base 0 0 1 = 120
            price 5 50 = 100
            base 0 0 5 = 60        # raised to a lower price
            base 0 0 6 = 120       # the last year is the greatest then
            form 0 0 2 0 = 0
            base 0 0 6 = 90
            """);
        Edges.words("1 ALL: the sum of those of all YEARS ahead of it, RAISED to it, divided by how many of these are above 0"
            + " (0 without).", """
            member 0 = 0
            form 0 1 1 0 = 0
            base 0 0 0 = 0
            base 0 0 99 = 0
            spell 0 0 60 60 1 0 = 0
            base 0 0 99 = 0            # without a wage
            wage 0 0 12 1 = 0
            base 0 0 1 = 0
            base 0 0 2 = 1/500
            base 0 0 99 = 1/500
            spell 0 0 5940 5999 100 0 = 1
            base 0 0 99 = 1/500        # its own year is not ahead of it
            spell 0 0 5880 5939 100 0 = 2
            base 0 0 99 = 6001/1000
            spell 0 0 0 59 100 0 = 3
            base 0 0 99 = 6001/1000    # the year 0 has no wage
            """);
        Edges.words("2 LAST: the sum of those of the so many YEARS just ahead of it (YEARS that there are), RAISED to it, each at"
            + " most the BOUND, divided by that number (also if there are fewer).", """
            member 0 = 0
            spell 0 0 0 179 100 0 = 0
            wage 0 0 0 10 = 0
            form 0 2 10 99999 = 0
            base 0 0 0 = 0
            base 0 0 1 = 12
            base 0 0 3 = 36
            base 0 0 10 = 36       # the years 0 to 9
            base 0 0 11 = 24       # 1 to 10
            base 0 0 12 = 12
            base 0 0 13 = 0
            form 0 2 1 99999 = 2
            base 0 0 0 = 0
            base 0 0 3 = 120
            base 0 0 4 = 0
            form 0 2 2 100 = 2
            base 0 0 3 = 100
            base 0 0 4 = 50        # 100 and 0
            """);
        Edges.words("(The BOUND is 0 to 99999; 99999 at first.)", """
            member 0 = 0
            spell 0 0 0 179 100 0 = 0
            wage 0 0 0 10 = 0
            form 0 2 1 -1 ! IAE
            form 0 2 1 100000 ! IAE
            form 0 2 1 119 = 0
            base 0 0 3 = 119
            form 0 2 1 120 = 2
            base 0 0 3 = 120
            form 0 2 1 121 = 2
            base 0 0 3 = 120
            form 0 2 1 0 = 2
            base 0 0 3 = 0
            wage 0 0 0 9999 = 10
            form 0 2 1 99999 = 2
            base 0 0 3 = 99999     # 119988 are bounded
            """);
    }

    private static void rules() {
        Edges.words("RULES of a HOUSE are told from a DAY on, at most 6: a RATE (0 to 50 thousandths a YEAR), a BEND (0 to 60 YEARS)"
            + " and a RATE behind it; at first it has one (it counts with the 6), from the DAY 0 on: 20, 30 and 10.", """
            member 0 = 0
            spell 0 0 0 5999 100 0 = 0
            ofHouse 0 0 = 1
            earned 0 0 60 = 1/50
            earned 0 0 1800 = 3/5
            earned 0 0 1860 = 61/100
            rule 0 0 0 60 50 = 1
            earned 0 0 3600 = 0        # a bend of sixty years, ahead of it nothing
            earned 0 0 3660 = 1/20
            rule 0 0 50 0 0 = 1
            earned 0 0 5999 = 0        # all is behind a bend of 0
            rule 0 0 50 1 0 = 1
            earned 0 0 60 = 1/20
            earned 0 0 5999 = 1/20
            rule 0 5999 50 60 50 = 2
            rule 0 1 50 60 50 = 3
            rule 0 2 50 60 50 = 4
            rule 0 3 50 60 50 = 5
            rule 0 4 50 60 50 = 6
            rule 0 5 50 60 50 ! ISE
            rule 0 4 0 60 0 = 6
            earned 0 0 4 = 1/300
            earned 0 0 5999 = 1/300
            rule 1 0 50 60 50 = 1
            rule 1 60 40 2 1 = 2
            unspell 0 0 = 0
            spell 0 1 0 5999 100 0 = 0
            earned 0 1 60 = 1/20
            earned 0 1 120 = 9/100       # the second rule has a bend of its own
            earned 0 1 180 = 91/1000
            """);
        Edges.words("EARNED on a DAY of a MEMBER at a HOUSE: what it HAS, times the RATE of the RULE of that DAY, if all TIME there"
            + " ahead of that DAY is less than BEND * 6000, otherwise times the RATE behind, divided by 6000000 (it is a fraction of"
            + " BASE).", """
            member 0 = 0
            rule 0 0 50 1 1 = 1
            spell 0 0 0 59 100 0 = 0
            spell 0 0 100 100 1 0 = 1
            earned 0 0 60 = 1/20
            earned 0 0 101 = 300001/6000000    # 6000 are not less than 6000
            spell 0 0 59 59 1 2 = 2
            earned 0 0 100 = 59/1200
            earned 0 0 101 = 1967/40000        # 5900 are
            spell 0 0 98 98 99 1 = 3
            earned 0 0 99 = 5999/120000
            earned 0 0 101 = 1/20              # and 5999 are
            spell 0 0 101 101 1 0 = 4
            earned 0 0 102 = 300001/6000000
            """);
        Edges.words("EARNED ahead of a DAY: together, of all DAYS ahead of it.", """
            member 0 = 0
            spell 0 0 0 0 100 0 = 0
            spell 0 0 5998 5999 100 0 = 1
            earned 0 0 0 = 0
            earned 0 0 1 = 1/3000
            earned 0 0 5998 = 1/3000
            earned 0 0 5999 = 1/1500      # the last day itself can not be ahead of one
            wouldEarn 0 0 5999 5999 1 = 1/1000
            """);
        Edges.words("HOUSES can be TIED two by two (none are, at first); those to which one comes by that are TIED, too.", """
            ofHouse 0 10 = 1
            ofHouse 1 10 = 2
            ofHouse 2 10 = 4
            tie 0 0 true ! IAE
            tie 0 1 true = 1
            ofHouse 0 10 = 3
            ofHouse 2 10 = 4
            tie 1 2 true = 2
            ofHouse 0 10 = 7       # 0 comes to 2 by 1
            ofHouse 2 10 = 7
            tie 2 0 true = 3
            tie 0 1 false = 2
            ofHouse 1 10 = 7
            tie 0 2 false = 1
            ofHouse 0 10 = 1
            ofHouse 1 10 = 6
            tie 2 1 false = 0
            tie 2 1 false = 0
            ofHouse 1 10 = 2
            """);
    }

    private static void rights() {
        Edges.words("OWN of a MEMBER at a HOUSE ahead of a DAY: whether its TIME at that HOUSE, and at those that are TIED to it,"
            + " ahead of that DAY, together, is at least VEST * 6000 (VEST 0 to 20 YEARS; 2 at first).", """
            member 0 = 0
            spell 0 0 0 119 100 0 = 0
            isOwn 0 0 119 = false
            isOwn 0 0 120 = true
            isOwn 0 1 5999 = false
            spell 0 0 0 0 1 2 = 1
            isOwn 0 0 5999 = false     # 11900
            spell 0 1 200 200 99 0 = 2
            tie 0 1 true = 1
            isOwn 0 0 5999 = false     # 11999
            isOwn 0 1 5999 = false
            spell 0 1 300 300 1 0 = 3
            isOwn 0 0 300 = false
            isOwn 0 0 301 = true       # 12000
            isOwn 0 1 301 = true
            isOwn 0 2 5999 = false
            terms 2 0 0 0 0 = 2
            isOwn 0 2 0 = true         # of nothing at all
            spell 0 2 1000 2199 100 0 = 4
            terms 2 20 0 0 0 = 0
            isOwn 0 2 2199 = false
            isOwn 0 2 2200 = true
            terms 2 21 0 0 0 ! IAE
            """);
        Edges.words("FACTOR in a MONTH: with NORMAL (an AGE, 0 to 1199; 720 at first), EARLY and LATE (0 to 10; 3 and 5 at first) of"
            + " the HOUSE: if its AGE is below NORMAL by k, 1000 less k * EARLY, at least 0; otherwise, above by k, 1000 and LATE"
            + " times the smaller one of k and 60.", """
            member 0 = 0
            factor 0 0 720 = 1000
            factor 0 0 719 = 997
            factor 0 0 721 = 1005
            factor 0 0 779 = 1295
            factor 0 0 780 = 1300
            factor 0 0 781 = 1300
            factor 0 0 1199 = 1300
            factor 0 0 387 = 1
            factor 0 0 386 = 0
            factor 0 0 0 = 0
            terms 0 0 100 10 10 = 2
            factor 0 0 0 = 0          # just 1000
            factor 0 0 1 = 10
            factor 0 0 160 = 1600
            factor 0 0 161 = 1600
            terms 0 0 0 10 10 = 0
            factor 0 0 0 = 1000
            terms 0 0 1199 0 0 = 0
            factor 0 0 0 = 1000
            factor 0 0 1199 = 1000
            """);
        Edges.words("PENSION of a MEMBER at a HOUSE, by going in a MONTH (coins a MONTH): 0, if it is not OWN ahead of the first DAY"
            + " of that MONTH; otherwise what is EARNED ahead of that DAY, times BASE for the YEAR of that DAY, times FACTOR, divided"
            + " by 12000.", RETIRED + """
            pension 0 0 0 = 0
            pension 0 0 23 = 0           # 115 days
            pension 0 0 24 = 20          # 120 days: 1/25 of 6000, a twelfth of it
            pension 0 0 119 = 595/6
            pension 0 0 121 = 100
            pension 0 0 1199 = 100
            terms 0 0 0 0 0 = 2
            pension 0 0 11 = 0           # its own, and earned, but no year is ahead of the year 0
            pension 0 0 12 = 10
            pension 0 0 0 = 0
            terms 0 0 1199 10 0 = 0
            pension 0 0 1099 = 0         # no factor
            pension 0 0 1100 = 1
            """);
        Edges.words("otherwise what is EARNED ahead of that DAY, times BASE for the YEAR of that DAY, times FACTOR, divided by 12000", """
            member 0 = 0
            terms 0 0 0 0 0 = 2
            rule 0 0 1 60 0 = 1
            wage 0 0 0 1 = 0
            spell 0 0 0 0 1 0 = 0
            form 0 1 1 0 = 0
            earned 0 0 60 = 1/6000000
            base 0 0 1 = 1/500
            pension 0 0 11 = 0
            pension 0 0 12 = 1/36000000000     # the least
            form 0 0 10 0 = 1
            pension 0 0 12 = 1/360000000000
            """);
    }

    private static void spouses() {
        Edges.words("MARRIAGES, at most 4, numbered from 0 as they came (the last one of a MEMBER is, of those it is in, the one with"
            + " the greatest number): two MEMBERS, a DAY from which on it is, and, if it is DIVIDED, a DAY from which on it is not,"
            + " and a SHARE (0 to 100).", """
            member 0 = 0
            member 0 = 1
            member 0 = 2
            ofMember 0 3 = -1
            marry 0 1 100 = 0
            divide 0 200 101 ! IAE
            divide 0 200 -1 ! IAE
            divide 0 5999 0 = 5899
            marry 0 2 5999 = 1
            ofMember 0 3 = 1
            ofMember 1 3 = 0
            marry 2 1 5999 ! ISE
            undo = 5
            undo = 4
            divide 0 101 100 = 1
            marry 2 0 101 = 1
            divide 1 102 50 = 1
            marry 0 1 102 = 2
            divide 2 103 50 = 1
            marry 1 0 103 = 3
            divide 3 104 50 = 1
            marry 1 2 104 ! ISE        # there are four
            count 1 = 4
            ofMember 0 3 = 3
            ofMember 2 3 = 1
            ofMarriage 0 4 = 100
            """);
        Edges.words("GIVEN of a PENSION (by going in a MONTH) to another MEMBER in a MONTH: 0, if that one died ahead of the first DAY"
            + " of this MONTH; otherwise, of each DIVIDED MARRIAGE of both, SHARE hundredths of that part of the PENSION that what was"
            + " EARNED on the DAYS of that MARRIAGE (ahead of the first DAY of the MONTH of going) is of all that was EARNED ahead of"
            + " that first DAY (0, if that is 0); together.", COUPLE + """
            marry 0 1 179 = 0
            given 0 1 0 36 36 = 0          # not divided
            divide 0 5999 100 = 5820
            given 0 1 0 36 36 = 1/5        # of 180 days the last one
            given 0 1 0 35 35 = 0          # of 175 none
            undo = 7
            undo = 6
            marry 0 1 0 = 0
            divide 0 1 100 = 1
            given 0 1 0 36 36 = 1/5
            marry 0 1 1 = 1
            divide 1 180 100 = 179
            given 0 1 0 36 36 = 36         # two marriages, all of it
            given 0 1 0 0 0 = 0            # nothing was earned
            given 1 0 0 36 36 = 0
            given 0 2 0 36 36 = 0
            undo = 7
            divide 1 180 0 = 179
            given 0 1 0 36 36 = 1/5        # a share of 0
            death 1 180 = -1
            given 0 1 0 36 36 = 1/5        # died on the first day of the month 36
            given 0 1 0 36 37 = 0
            death 1 179 = 180
            given 0 1 0 36 36 = 0
            """);
        Edges.words("KEPT: the PENSION less all that is GIVEN of it.", COUPLE + """
            kept 0 0 36 36 = 36
            marry 0 1 0 = 0
            kept 0 0 36 36 = 36
            divide 0 90 100 = 90
            kept 0 0 36 36 = 18
            marry 0 2 90 = 1
            divide 1 180 100 = 90
            kept 0 0 36 36 = 0             # all is given
            kept 0 0 0 0 = 0
            death 1 0 = -1
            kept 0 0 36 0 = 0
            kept 0 0 36 1 = 18
            death 2 0 = -1
            kept 0 0 36 1 = 36
            spell 1 0 0 0 100 0 = 0
            death 1 -1 = 0
            death 2 -1 = 0
            kept 1 0 36 36 = 0             # no wage yet
            wage 1 0 0 600 = 0
            form 0 1 1 0 = 2
            kept 1 0 36 36 = 0             # its only day was one with 0, to whom all is given
            given 1 0 0 36 36 = 1/300
            death 0 0 = -1
            kept 1 0 36 1 = 1/300
            """);
    }

    /** As RETIRED, but of 9999 a month, over prices that make a long fraction. */
    private static final String LONG = """
            member 0 = 0
            member 0 = 1
            terms 0 0 0 0 0 = 2
            spell 0 0 0 599 100 0 = 0
            wage 0 0 0 9999 = 0
            form 0 1 1 0 = 0
            price 0 7 = 100
            price 5 9967 = 7
            price 10 9973 = 9967
            pension 0 0 120 = 497303774649/348845     # 9999 * 9973 * 9974 / 69769 / 10
            """;

    private static void widows() {
        Edges.words("KEPT: the PENSION less all that is GIVEN of it.", LONG + """
            marry 0 1 0 = 0
            divide 0 600 100 = 600
            kept 0 0 120 120 = 0
            given 0 1 0 120 120 = 497303774649/348845
            undo = 7
            divide 0 300 100 = 300
            kept 0 0 120 120 = 497303774649/697690
            given 0 1 0 120 120 = 497303774649/697690
            undo = 7
            divide 0 600 0 = 600
            kept 0 0 120 120 = 497303774649/348845
            given 0 1 0 120 120 = 0
            """);
        Edges.words("WIDOW PART of a HOUSE: 0 to 100 (60 at first).", LONG + """
            marry 1 0 0 = 0
            death 0 600 = -1
            widow 1 0 = 1491911323947/1744225
            widows 0 0 = 60
            widow 1 0 = 0
            widows 0 100 = 0
            widow 1 0 = 497303774649/348845
            """);
        Edges.words("WIDOW PART of a HOUSE: 0 to 100 (60 at first).", COUPLE + """
            ofHouse 0 4 = 60
            marry 0 1 0 = 0
            death 0 180 = -1
            widow 1 0 = 108/5
            widows 0 -1 ! IAE
            widows 0 101 ! IAE
            widows 0 100 = 60
            widow 1 0 = 36
            widows 0 0 = 100
            widow 1 0 = 0
            widows 0 1 = 0
            widow 1 0 = 9/25
            """);
        Edges.words("WIDOW of a MEMBER at a HOUSE: if its last MARRIAGE is not DIVIDED, and the other one died, not ahead of the DAY"
            + " from which on it is: that many hundredths of what that one would KEEP of its PENSION, going in the MONTH of that DAY of"
            + " death (GIVEN in the same MONTH); otherwise 0.", COUPLE + """
            widow 1 0 = 0                  # no marriage
            widows 0 100 = 60
            marry 1 0 180 = 0
            widow 1 0 = 0                  # it lives
            death 0 180 = -1
            widow 1 0 = 36                 # died on the very day
            widow 0 0 = 0
            death 0 179 = 180
            widow 1 0 = 0                  # ahead of it
            death 0 184 = 179
            widow 1 0 = 36                 # the month of the death is 36 still
            death 0 185 = 184
            widow 1 0 = 37
            divide 0 181 50 = 1
            widow 1 0 = 0
            """);
        Edges.words("WIDOW of a MEMBER at a HOUSE: if its last MARRIAGE is not DIVIDED", COUPLE + """
            widows 0 100 = 60
            marry 0 2 0 = 0
            divide 0 90 100 = 90
            marry 0 1 90 = 1
            death 0 180 = -1
            widow 1 0 = 18                 # half is given to 2
            widow 2 0 = 0                  # its last one is divided
            death 2 179 = -1
            widow 1 0 = 36                 # 2 died ahead of the month 36
            death 2 180 = 179
            widow 1 0 = 18
            death 2 -1 = 180
            marry 1 2 180 ! ISE
            marry 1 2 181 = 2
            widow 1 0 = 0                  # the last one is that with 2, who lives
            """);
    }

    private static void levels() {
        Edges.words("LEVEL of a HOUSE from a YEAR to a later one (or the same): 1 in the first YEAR; then YEAR by YEAR: the WANTED one"
            + " is PRICE of that YEAR divided by PRICE of the first one; LEVEL is that, but at most the one before times (100 and TOP)"
            + " / 100, and at least the one before times (100 and FLOOR) / 100 (FLOOR -10 to TOP, TOP 0 to 30; 0 and 5 at first).", """
            ofHouse 0 5 = 0
            ofHouse 0 6 = 5
            level 0 50 50 = 1
            level 0 50 70 = 1
            level 0 50 71 ! IAE
            level 0 50 49 ! IAE
            price 51 105 = 100
            level 0 50 51 = 21/20        # just at most
            price 51 106 = 105
            level 0 50 51 = 21/20
            price 51 104 = 106
            level 0 50 51 = 26/25
            price 51 99 = 104
            level 0 50 51 = 1            # at least the one before
            raise 0 -10 0 = 5
            level 0 50 51 = 99/100
            price 51 90 = 99
            level 0 50 51 = 9/10         # just at least
            price 51 89 = 90
            level 0 50 51 = 9/10
            raise 0 -11 0 ! IAE
            raise 0 30 30 = 0
            level 0 50 51 = 13/10        # floor and top are the same
            level 0 50 52 = 169/100
            raise 0 0 0 = 30
            level 0 50 70 = 1
            raise 0 31 31 ! IAE
            raise 0 1 0 ! IAE
            raise 0 0 30 = 0
            price 51 9999 = 89
            level 0 99 99 = 1
            level 0 50 51 = 13/10
            """);
        Edges.words("So what was missed is made up later.", """
            price 1 112 = 100
            level 0 0 1 = 21/20
            level 0 0 2 = 441/400
            level 0 0 3 = 28/25
            level 0 0 4 = 28/25
            raise 0 -10 5 = 5
            price 1 80 = 112
            level 0 0 1 = 9/10
            level 0 0 2 = 81/100
            level 0 0 3 = 4/5
            price 3 100 = 80
            level 0 0 3 = 1701/2000      # of 81 hundredths at most a twentieth more
            """);
        Edges.words("POINTS of a HOUSE: told from a MONTH on, 0 to 300 (300 ahead of the first; at most 8 are told).", """
            ofHouse 0 8 = 0
            lessen 0 600 300 = 0
            ofClass 0 2 599 = 100
            ofClass 0 0 600 = 0
            ofClass 0 0 1199 = 0
            lessen 0 600 1 = 0
            lessen 0 601 -300 = 300
            lessen 0 602 -1 = 300
            lessen 0 599 0 = 300
            ofClass 0 0 600 = 0
            lessen 0 0 1 = 299
            lessen 0 1199 1 = 299
            lessen 0 1 1 = 298
            lessen 0 2 1 = 297
            ofHouse 0 8 = 8
            lessen 0 3 1 ! ISE
            lessen 0 2 1 = 296
            ofHouse 0 8 = 8
            """);
        Edges.words("A CLASS (0 to 2) has of them, in hundredths, what is above 100 * CLASS, at least 0, at most 100.", """
            ofClass 0 -1 0 ! IOOBE
            ofClass 0 3 0 ! IOOBE
            ofClass 0 0 0 = 100
            ofClass 0 1 0 = 100
            ofClass 0 2 0 = 100
            lessen 0 0 1 = 299
            ofClass 0 2 0 = 99
            lessen 0 0 98 = 201
            ofClass 0 2 0 = 1
            lessen 0 0 1 = 200
            ofClass 0 2 0 = 0
            ofClass 0 1 0 = 100
            lessen 0 0 1 = 199
            ofClass 0 2 0 = 0
            ofClass 0 1 0 = 99
            lessen 0 0 99 = 100
            ofClass 0 1 0 = 0
            ofClass 0 0 0 = 100
            lessen 0 0 99 = 1
            ofClass 0 0 0 = 1
            lessen 0 0 1 = 0
            ofClass 0 0 0 = 0
            """);
    }

    /** Twenty years of a hundred from the day 600 on, at 600 a month, by ALL: 240 from the month 360 on. */
    private static final String TWENTY = """
            member 600 = 0
            terms 0 2 0 0 0 = 2
            spell 0 0 600 1799 100 0 = 0
            wage 0 0 0 600 = 0
            form 0 1 1 0 = 0
            pension 0 0 360 = 240
            """;

    private static void values() {
        Edges.words("ANNUITY of a HOUSE: told from an AGE in YEARS (0 to 99) on, 1 to 40 (20 ahead of the first; at most 6 are told).", """
            ofHouse 0 9 = 0
            annuity 0 -1 1 ! IAE
            annuity 0 100 1 ! IAE
            annuity 0 99 0 ! IAE
            annuity 0 99 41 ! IAE
            annuity 0 99 40 = 20
            annuity 0 50 1 = 20
            annuity 0 98 2 = 1
            annuity 0 0 3 = 20
            annuity 0 49 4 = 3
            annuity 0 99 5 = 40
            annuity 0 1 6 = 3
            ofHouse 0 9 = 6
            annuity 0 2 7 ! ISE
            annuity 0 1 8 = 6
            ofHouse 0 9 = 6
            """);
        Edges.words("VALUE of a MEMBER at a HOUSE in a MONTH: its PENSION, by going in that MONTH, times 12, times ANNUITY of its AGE /"
            + " 12 (of 0, if that is below 0).", TWENTY + """
            value 0 0 360 = 57600
            annuity 0 20 1 = 20
            value 0 0 359 = 57360         # nineteen years and eleven months: 239
            value 0 0 360 = 2880
            annuity 0 21 40 = 1
            value 0 0 371 = 2880
            value 0 0 372 = 115200
            annuity 0 99 3 = 40
            value 0 0 1199 = 115200       # it is ninety
            value 0 0 0 = 0               # below 0
            value 0 0 119 = 0
            value 0 1 360 = 0
            """);
        Edges.words("times 12, times ANNUITY of its AGE / 12", """
            member 30 = 0
            terms 0 0 0 0 0 = 2
            form 0 2 1 99999 = 0
            spell 0 0 30 59 100 0 = 0
            wage 0 0 0 500 = 0
            pension 0 0 12 = 5/2
            annuity 0 1 5 = 20
            value 0 0 12 = 600         # six months old
            value 0 0 17 = 600
            value 0 0 18 = 150         # twelve
            annuity 0 0 7 = 20
            value 0 0 17 = 210
            value 0 0 18 = 150
            """);
        Edges.words("TRANSFERRED to another HOUSE: that VALUE, divided by 12 and by the ANNUITY of that one (for the same AGE): coins a"
            + " MONTH there.", TWENTY + """
            transferred 0 0 0 360 = 240
            annuity 0 20 40 = 20
            transferred 0 0 0 360 = 240
            transferred 0 0 1 360 = 480
            annuity 1 20 1 = 20
            transferred 0 0 1 360 = 9600
            transferred 0 0 1 359 = 239
            annuity 2 0 7 = 20
            transferred 0 0 2 360 = 9600/7
            transferred 0 0 2 359 = 4780/7
            transferred 0 1 0 360 = 0
            transferred 0 0 1 0 = 0
            """);
    }

    private static void streams() {
        Edges.words("STREAMS, at most 6, numbered from 0: a MEMBER has gone at a HOUSE in a MONTH, in a CLASS.", """
            member 0 = 0
            member 0 = 1
            member 0 = 2
            terms 0 0 0 0 0 = 2
            terms 1 0 0 0 0 = 2
            terms 2 0 0 0 0 = 2
            count 2 = 0
            go 0 0 0 0 = 0
            go 0 1 1199 2 = 1
            go 0 2 1200 0 ! IAE
            go 0 2 0 3 ! IAE
            go 0 0 1 1 ! ISE
            go 0 2 5 1 = 2
            go 1 0 0 0 = 3
            go 1 1 0 0 = 4
            go 2 1 0 0 = 5
            go 2 2 0 0 ! ISE
            count 2 = 6
            ofStream 1 2 = 1199
            ofStream 1 3 = 2
            ofStream 6 0 ! IOOBE
            ofMember 0 4 = 3
            ofMember 1 4 = 2
            ofMember 2 4 = 1
            """);
        Edges.words("DUE of a STREAM in a MONTH (of going or later): 0, without BRIDGE, if the MEMBER died ahead of its first DAY;"
            + " otherwise what is KEPT in that MONTH of its PENSION (by going in the MONTH of going), times LEVEL of the HOUSE from the"
            + " YEAR of the MONTH of going to the YEAR of that MONTH, times what its CLASS has of POINTS in that MONTH, divided by 100,"
            + " all rounded down, at most 99999; and BRIDGE coins (of the HOUSE, 0 to 999; 0 at first) more, if its AGE in that MONTH"
            + " is below BRIDGE AGE (0 to 1199; 720 at first).", RETIRED + """
            go 0 0 120 0 = 0
            due 0 119 ! IAE
            due 0 120 = 100
            due 0 240 = 100
            due 0 241 ! IAE
            bridge 0 999 121 = 0
            due 0 120 = 1099
            due 0 121 = 100              # of the age 121
            bridge 0 7 0 = 999
            due 0 120 = 100
            bridge 0 7 1199 = 7
            due 0 240 = 107
            death 0 605 = -1
            due 0 121 = 107              # died on its first day
            due 0 122 = 0
            death 0 -1 = 605
            lessen 0 120 299 = 1
            due 0 120 = 8
            lessen 0 120 300 = 0
            due 0 120 = 7
            lessen 0 120 -300 = 300
            wage 0 0 0 4 = 500
            due 0 120 = 7                # four fifths
            wage 0 0 0 5 = 4
            due 0 120 = 8
            """);
        Edges.words("otherwise what is KEPT in that MONTH of its PENSION (by going in the MONTH of going)", RETIRED + """
            member 0 = 1
            go 0 0 120 0 = 0
            marry 1 0 0 = 0
            due 0 120 = 100
            divide 0 300 1 = 300
            due 0 120 = 99               # 99.5
            undo = 7
            divide 0 5999 100 = 5999
            due 0 240 = 0
            bridge 0 3 1199 = 0
            due 0 120 = 3
            death 1 604 = -1
            due 0 120 = 3
            due 0 121 = 103              # died ahead of its first day
            """);
        Edges.words("all rounded down, at most 99999; and BRIDGE coins", RETIRED + """
            go 0 0 120 0 = 0
            wage 0 0 0 5000 = 500
            price 0 1 = 100
            price 10 99 = 1
            due 0 120 = 99000
            price 10 100 = 99
            due 0 120 = 99999            # 100000
            price 10 9999 = 100
            due 0 120 = 99999
            bridge 0 1000 0 ! IAE
            bridge 0 999 720 = 0
            due 0 120 = 100998           # the bridge comes behind the bound
            """);
        Edges.words("all rounded down, at most 99999; and BRIDGE coins", RETIRED + """
            go 0 0 120 0 = 0
            rule 0 0 50 60 0 = 1
            terms 0 2 0 0 10 = 2
            wage 0 0 0 9999 = 500
            price 0 1 = 100
            price 10 9999 = 1
            pension 0 0 120 = 399920004/5
            raise 0 30 30 = 5
            due 0 120 = 99999
            due 0 228 = 99999            # 848 million
            due 0 240 = 99999            # and 1102 million
            """);
        Edges.words("times LEVEL of the HOUSE from the YEAR of the MONTH of going to the YEAR of that MONTH, times what its CLASS has of"
            + " POINTS in that MONTH", RETIRED + """
            go 0 0 131 2 = 0
            price 11 104 = 100
            due 0 131 = 100              # the last month of the year 10
            due 0 132 = 104              # the first one of the year 11
            lessen 0 132 50 = 250
            due 0 131 = 100
            due 0 132 = 52
            lessen 0 133 50 = 200
            due 0 132 = 52
            due 0 133 = 0
            """);
    }

    private static void payments() {
        Edges.words("A payment is for the next MONTH that was not paid (at first that of going).", RETIRED + """
            go 0 0 120 0 = 0
            lessen 0 121 250 = 50
            lessen 0 122 -49 = 99
            payOut 0 = 100
            payOut 0 = 50
            payOut 0 = 99
            """);
        Edges.words("BOOKED of a paid MONTH is what was DUE for it, as it was reckoned last by a payment.", RETIRED + """
            go 0 0 120 0 = 0
            ofStream 0 7 = 0
            payOut 0 = 100
            ofStream 0 7 = 100
            wage 0 0 0 1000 = 500
            ofStream 0 7 = 100       # no payment has reckoned anew
            payOut 0 = 300
            ofStream 0 7 = 400
            wage 0 0 0 0 = 1000
            payOut 0 = 0
            ofStream 0 7 = 0
            ofStream 0 6 = -400
            """);
        Edges.words("INTEREST is 0 to 10 (0 at first).", RETIRED + """
            count 4 = 0
            interest -1 ! IAE
            interest 11 ! IAE
            go 0 0 120 0 = 0
            payOut 0 = 100
            wage 0 0 0 1000 = 500
            payOut 0 = 300
            undo = 7
            interest 10 = 0
            payOut 0 = 301
            undo = 7
            interest 0 = 10
            payOut 0 = 300
            """);
        Edges.words("Step by step: of each MONTH that was paid already how much more (or less) is DUE for it now than BOOKED, times (1000"
            + " and INTEREST, as it is now, times how many MONTHS ahead of this one it is); all that together, divided by 1000, rounded"
            + " down, is the MENDING; BOOKED of all becomes what is DUE now.", RETIRED + """
            interest 5 = 0
            go 0 0 120 0 = 0
            payOut 0 = 100
            payOut 0 = 100
            payOut 0 = 100
            interest 1 = 5
            wage 0 0 0 505 = 500
            payOut 0 = 104           # 101, and 1.003, 1.002, 1.001 together: 3.006
            payOut 0 = 101           # nothing is left to mend
            wage 0 0 0 500 = 505
            payOut 0 = 94            # 100, less 5.015 (together, not one by one), so less 6
            lessen 0 123 100 = 200
            lessen 0 123 100 = 100
            lessen 0 124 1 = 99
            payOut 0 = 96            # 99 for 126, less 1.002 and 1.001, so less 3
            ofStream 0 7 = 697
            """);
        Edges.words("times (1000 and INTEREST, as it is now, times how many MONTHS ahead of this one it is)", RETIRED + """
            go 0 0 120 0 = 0
            x3: payOut 0 = 100
            interest 10 = 0
            wage 0 0 0 1000 = 500
            payOut 0 = 506           # 200, and 103, 102 and 101
            lessen 0 0 0 = 300
            lessen 0 1 250 = 50
            payOut 0 = 0             # a hundred, less a hundred times 1.04, 1.03, 1.02 and 1.01
            ofStream 0 6 = -310
            interest 0 = 10
            lessen 0 1 -50 = 100
            payOut 0 = 390           # 200, and 500, less 310
            """);
        Edges.words("To what is DUE for this MONTH come MENDING and CARRY (0 at first).", RETIRED + """
            go 0 0 120 0 = 0
            ofStream 0 6 = 0
            payOut 0 = 100
            payOut 0 = 100
            wage 0 0 0 150 = 500
            payOut 0 = 0             # 30, less 140
            ofStream 0 6 = -110
            wage 0 0 0 500 = 150
            payOut 0 = 200           # 100, and 210, less 110
            ofStream 0 6 = 0
            """);
        Edges.words("That is PAID, and CARRY is 0, or, if it is below 0, nothing is PAID, and CARRY is that.", RETIRED + """
            go 0 0 120 0 = 0
            payOut 0 = 100
            wage 0 0 0 250 = 500
            payOut 0 = 0             # 50, less 50: just 0
            ofStream 0 6 = 0
            wage 0 0 0 245 = 250
            payOut 0 = 47            # 49, less 2
            ofStream 0 6 = 0
            wage 0 0 0 80 = 245
            payOut 0 = 0             # 16, less 3 times 33
            ofStream 0 6 = -83
            payOut 0 = 0             # 16 again
            ofStream 0 6 = -67
            x4: payOut 0 = 0
            ofStream 0 6 = -3
            payOut 0 = 13
            ofStream 0 6 = 0
            payOut 0 = 16
            """);
        Edges.words("At most 24 payments of a STREAM.", RETIRED + """
            go 0 0 120 0 = 0
            x23: payOut 0 = 100
            payOut 0 = 100
            payOut 0 ! ISE
            ofStream 0 4 = 24
            undo = 7
            payOut 0 = 100
            payOut 0 ! ISE
            """);
    }

    private static void lines() {
        Edges.words("LINE of a SPELL: FROM, \"-\", TO, \":\", PART and \"w\" for WORK, \"r\" for REST, \"g\" for GAP (\"0-59:100w\").", """
            member 0 = 0
            spell 0 0 0 59 100 0 = 0
            spell 0 0 0 0 1 1 = 1
            spell 0 0 5999 5999 100 2 = 2
            spell 0 0 9 10 9 0 = 3
            spell 0 0 99 100 10 1 = 4
            spell 0 0 999 1000 99 2 = 5
            line 0 0 = 0-59:100w
            line 0 1 = 0-0:1r
            line 0 2 = 5999-5999:100g
            line 0 3 = 9-10:9w
            line 0 4 = 99-100:10r
            line 0 5 = 999-1000:99g
            """);
        Edges.words("TYPED is a row of at most 14 SIGNS \"0123456789-:wrg\" (0 to 14; none at first).", """
            typed =
            count 5 = 0
            type -2 -1 -1 -1 -1 -1 ! IAE
            type 17 -1 -1 -1 -1 -1 ! IAE
            type 0 1 2 3 4 5 = 6
            type 6 7 8 9 10 11 = 12
            type 12 13 -1 -1 -1 -1 = 14
            typed = 0123456789-:wr
            type 14 -1 -1 -1 -1 -1 ! ISE
            type 15 14 -1 -1 -1 -1 = 14
            typed = 0123456789-:wg
            """);
        Edges.words("FAULT: the place (from 0 on) of the first SIGN that can not stand there by that form (FROM and TO have one to four"
            + " digits, PART one to three; digits may begin with 0), how many SIGNS there are, if one is missing; NONE without.", """
            fault = 0                        # nothing is typed, one is missing
            type 10 -1 -1 -1 -1 -1 = 1
            fault = 0                        # no digit ahead of it
            type 16 0 0 0 0 -1 = 4
            fault = 4
            type 0 -1 -1 -1 -1 -1 = 5
            fault = 4                        # a fifth digit
            type 15 10 -1 -1 -1 -1 = 5
            fault = 5
            type 11 -1 -1 -1 -1 -1 = 6
            fault = 5                        # no digit of TO
            type 15 0 0 0 0 -1 = 9
            type 0 -1 -1 -1 -1 -1 = 10
            fault = 9                        # a fifth one
            type 15 11 -1 -1 -1 -1 = 10
            fault = 10
            type 12 -1 -1 -1 -1 -1 = 11
            fault = 10                       # no digit of PART
            type 15 0 0 0 -1 -1 = 13
            fault = 13                       # the kind is missing
            type 0 -1 -1 -1 -1 -1 = 14
            fault = 13                       # a fourth one
            type 15 12 -1 -1 -1 -1 = 14
            typed = 0000-0000:000w
            fault = -1                       # the form alone is asked for
            type 16 0 10 0 11 0 = 5
            type 14 -1 -1 -1 -1 -1 = 6
            fault = -1
            type 14 -1 -1 -1 -1 -1 = 7
            fault = 6                        # one too many
            """);
    }

    private static void steps() {
        Edges.words("CHANGES are the calls of the section «changes» that throw nothing and tell no number below -1; the last 8 can be"
            + " UNDONE, the last one first (all but TYPED, how often one knocked, and how many can be UNDONE, is then as it was ahead of"
            + " that CHANGE, which counts no more).", """
            member 0 = 0
            type 1 10 1 11 1 -1 = 5
            enter 0 0 = -7                   # below -1: no change
            knock = 1
            has 0 0 0 = 0
            count 3 = 1
            death 0 -1 = -1                  # -1: a change
            count 3 = 2
            type 12 -1 -1 -1 -1 -1 = 6
            enter 0 0 = 0
            count 3 = 3
            typed =
            type 9 -1 -1 -1 -1 -1 = 1
            knock = 2
            undo = 2
            typed = 9
            count 6 = 2
            ofMember 0 2 = 0
            interest 1 = 0
            x7: interest 2 = _
            interest 3 = 2                   # with this the first of nine is forgotten
            undo = 7
            count 4 = 2
            undo = 6
            undo = 5
            undo = 4
            undo = 3
            undo = 2
            undo = 1
            count 4 = 2
            undo = 0
            count 4 = 1
            count 0 = 1
            undo ! ISE
            """);
        Edges.words("How many can be UNDONE: 0 at first; 1 more with each CHANGE, but at most 8; 1 less with each that is UNDONE.", """
            count 3 = 0
            undo ! ISE
            interest 1 = 0
            count 3 = 1
            x6: interest 1 = 1
            count 3 = 7
            interest 1 = 1
            count 3 = 8
            interest 1 = 1
            count 3 = 8
            undo = 7
            interest 11 ! IAE
            count 3 = 7
            interest 1 = 1
            count 3 = 8
            """);
    }
}
