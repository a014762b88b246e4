/** Promises 17 (bridge), 20 (go), 21 (payOut), 22 (interest), 47 (due), 48 (paid), 49 (ofStream). */
public final class PaymentsTest {
    public static void main(String[] none) {
        bridge();
        interest();
        go();
        goLimits();
        due();
        dueWithLevelAndClass();
        dueAtMost();
        dueAndDeath();
        payOut();
        mending();
        mendingRoundedDown();
        carry();
        paymentLimits();
        lastMonth();
        ofStream();
        Script.end();
    }

    /** Ten years of a hundred, at so much a month that the pension is the wage's fifth. */
    private static final String RETIRED = """
            member 0 = 0
            terms 0 2 0 0 0 = 2
            spell 0 0 0 599 100 0 = 0
            wage 0 0 0 500 = 0
            form 0 1 1 0 = 0
            pension 0 0 120 = 100
            """;

    private static void bridge() {
        Script.run("17 bridge", RETIRED + """
            bridge 3 0 0 ! IOOBE
            bridge -1 -1 -1 ! IOOBE
            bridge 0 -1 0 ! IAE
            bridge 0 1000 0 ! IAE
            bridge 0 0 -1 ! IAE
            bridge 0 0 1200 ! IAE
            go 0 0 120 0 = 0
            due 0 120 = 100
            bridge 0 999 1199 = 0
            ofHouse 0 7 = 999
            ofHouse 1 7 = 0
            due 0 120 = 1099
            bridge 0 7 122 = 999
            due 0 121 = 107
            due 0 122 = 100             # it is 122 months old
            bridge 0 7 0 = 7
            due 0 120 = 100
            undo = 7
            due 0 120 = 107
            """);
    }

    private static void interest() {
        Script.run("22 interest", """
            interest -1 ! IAE
            interest 11 ! IAE
            count 3 = 0
            interest 10 = 0
            interest 0 = 10
            interest 3 = 0
            count 4 = 3
            undo = 2
            count 4 = 0
            """);
    }

    private static void go() {
        Script.run("20 go", """
            go 0 0 0 0 ! IOOBE
            member 0 = 0
            go 1 0 0 0 ! IOOBE
            go 0 3 -1 3 ! IOOBE
            go 0 0 -1 0 ! IAE
            go 0 0 1200 0 ! IAE
            go 0 0 5 -1 ! IAE
            go 0 0 5 3 ! IAE
            go 0 0 5 0 ! ISE             # not its own
            spell 0 0 0 119 100 0 = 0
            go 0 0 23 0 ! ISE
            death 0 119 = -1
            go 0 0 24 0 ! ISE            # died ahead of the day 120
            go 0 0 24 3 ! IAE
            count 2 = 0
            death 0 120 = 119
            go 0 0 24 2 = 0
            go 0 0 24 2 ! ISE
            go 0 0 23 1 ! ISE
            go 0 1 24 1 ! ISE
            tie 0 1 true = 1
            go 0 1 24 1 = 1              # its own by the other one
            count 2 = 2
            ofStream 0 0 = 0
            ofStream 0 1 = 0
            ofStream 0 2 = 24
            ofStream 0 3 = 2
            ofStream 1 1 = 1
            ofMember 0 4 = 2
            undo = 6
            count 2 = 1
            ofMember 0 4 = 1
            """);
    }

    private static void goLimits() {
        Script.run("20 six streams", """
            member 0 = 0
            member 0 = 1
            member 0 = 2
            terms 0 0 0 0 0 = 2
            terms 1 0 0 0 0 = 2
            terms 2 0 0 0 0 = 2
            go 0 0 0 0 = 0
            go 0 1 0 0 = 1
            go 0 2 0 0 = 2
            go 1 0 0 0 = 3
            go 1 1 0 0 = 4
            go 1 2 1199 0 = 5
            go 2 0 0 0 ! ISE
            go 2 0 0 3 ! IAE
            count 2 = 6
            ofMember 1 4 = 3
            ofMember 2 4 = 0
            ofStream 5 2 = 1199
            """);
    }

    private static void due() {
        Script.run("47 due", RETIRED + """
            due 0 120 ! IOOBE
            go 0 0 120 0 = 0
            due 1 120 ! IOOBE
            due -1 -1 ! IOOBE
            due 0 119 ! IAE
            due 0 120 = 100
            due 0 240 = 100
            due 0 241 ! IAE
            due 0 -1 ! IAE
            wage 0 0 0 499 = 500
            due 0 120 = 99               # 99.8
            wage 0 0 0 4 = 499
            due 0 120 = 0
            wage 0 0 0 5 = 4
            due 0 120 = 1
            unspell 0 0 = 0
            due 0 120 = 0                # not its own any more
            """);
        Script.run("47 due, near the end", RETIRED + """
            spell 0 0 600 5999 100 0 = 1
            go 0 0 1100 0 = 0
            due 0 1199 = 608             # 73 sixtieths of 500 are 608.3
            due 0 1200 ! IAE
            """);
    }

    private static void dueWithLevelAndClass() {
        Script.run("47 due, with level and class", RETIRED + """
            go 0 0 126 1 = 0
            price 10 103 = 100
            price 11 120 = 103
            due 0 131 = 103              # 103: the base is of the year 10 and so raised to it
            due 0 132 = 108              # 1.05 is the most
            due 0 144 = 113              # 1.1025
            due 0 156 = 119
            due 0 168 = 120              # 120 of 103 are reached
            lessen 0 140 150 = 150
            due 0 139 = 108
            due 0 140 = 54               # a class 1 has 50 hundredths
            lessen 0 150 50 = 100
            due 0 150 = 0
            bridge 0 9 1000 = 0
            due 0 150 = 9
            """);
    }

    private static void dueAtMost() {
        Script.run("47 due, at most", RETIRED + """
            go 0 0 120 0 = 0
            wage 0 0 0 9999 = 500
            due 0 120 = 1999
            price 0 2 = 100
            price 10 100 = 2
            due 0 120 = 99990
            price 10 101 = 100
            due 0 120 = 99999
            price 10 9999 = 101
            due 0 120 = 99999
            bridge 0 999 1199 = 0
            due 0 120 = 100998
            payOut 0 = 100998
            """);
    }

    private static void dueAndDeath() {
        Script.run("47 due, and death", RETIRED + """
            member 0 = 1
            go 0 0 120 0 = 0
            bridge 0 9 1000 = 0
            marry 0 1 0 = 0
            divide 0 300 50 = 300
            due 0 120 = 84
            death 0 650 = -1
            due 0 130 = 84
            due 0 131 = 0                # without the bridge
            death 1 625 = -1
            due 0 125 = 84
            due 0 126 = 109              # nothing is given any more
            """);
    }

    private static void payOut() {
        Script.run("21 payOut, 48 paid", RETIRED + """
            payOut 0 ! IOOBE
            go 0 0 120 0 = 0
            payOut 1 ! IOOBE
            payOut -1 ! IOOBE
            paid 0 0 ! IOOBE
            payOut 0 = 100
            paid 0 0 = 100
            paid 0 1 ! IOOBE
            paid 0 -1 ! IOOBE
            paid 1 0 ! IOOBE
            bridge 0 5 122 = 0
            payOut 0 = 110               # 105, and 5 for the month before
            payOut 0 = 100
            paid 0 1 = 110
            ofStream 0 5 = 310
            ofStream 0 7 = 310
            count 8 = 310
            undo = 7
            paid 0 2 ! IOOBE
            ofStream 0 4 = 2
            undo = 6
            undo = 5
            ofStream 0 7 = 100           # what was booked is as it was, too
            payOut 0 = 100
            """);
    }

    private static void mending() {
        Script.run("21 payOut, mending with interest", RETIRED + """
            go 0 0 120 0 = 0
            x3: payOut 0 = 100
            interest 10 = 0
            wage 0 0 0 1000 = 500
            payOut 0 = 506               # 200 and 100 * (1.03 + 1.02 + 1.01)
            ofStream 0 7 = 800
            payOut 0 = 200               # mended once
            wage 0 0 0 500 = 1000
            payOut 0 = 0                 # 100 less 100 * (1.05 + 1.04 + 1.03 + 1.02 + 1.01)
            ofStream 0 6 = -415
            ofStream 0 7 = 600
            ofStream 0 5 = 1006
            interest 0 = 10
            payOut 0 = 0
            ofStream 0 6 = -315
            """);
    }

    private static void mendingRoundedDown() {
        Script.run("21 payOut, mending rounded down", RETIRED + """
            go 0 0 120 0 = 0
            payOut 0 = 100
            payOut 0 = 100
            interest 1 = 0
            wage 0 0 0 505 = 500
            payOut 0 = 103               # 101, 1.002 and 1.001 are 2.003 together
            wage 0 0 0 500 = 505
            payOut 0 = 96                # 100 less 1.003, 1.002, 1.001 are -3.006, so -4
            ofStream 0 6 = 0
            ofStream 0 7 = 400
            """);
        Script.run("21 payOut, what is just below a whole number", RETIRED + """
            go 0 0 120 0 = 0
            payOut 0 = 100
            interest 1 = 0
            wage 0 0 0 495 = 500
            payOut 0 = 97                # 99 and -1.001, so -2
            """);
        Script.run("21 payOut, each month mended for itself", RETIRED + """
            go 0 0 120 0 = 0
            x3: payOut 0 = 100
            lessen 0 121 250 = 50
            payOut 0 = 0                 # for 121, 122 and 123 only fifty are due
            ofStream 0 6 = -50
            ofStream 0 7 = 250
            payOut 0 = 0
            ofStream 0 6 = 0
            payOut 0 = 50
            """);
    }

    private static void carry() {
        Script.run("21 payOut, carry", RETIRED + """
            go 0 0 120 0 = 0
            x5: payOut 0 = 100
            spell 0 0 0 599 100 2 = 1    # a gap over all
            ofStream 0 6 = 0
            payOut 0 = 0
            ofStream 0 6 = -500
            payOut 0 = 0
            ofStream 0 6 = -500
            unspell 0 1 = 1
            payOut 0 = 300               # 700 are mended, 100 due, 500 taken
            ofStream 0 6 = 0
            count 8 = 800
            ofStream 0 7 = 800
            payOut 0 = 100
            """);
    }

    private static void paymentLimits() {
        Script.run("21 twenty-four payments", RETIRED + """
            go 0 0 120 0 = 0
            x24: payOut 0 = 100
            payOut 0 ! ISE
            ofStream 0 4 = 24
            ofStream 0 5 = 2400
            paid 0 23 = 100
            paid 0 24 ! IOOBE
            count 3 = 8
            """);
    }

    private static void lastMonth() {
        Script.run("21 no next month", """
            member 0 = 0
            terms 0 0 0 0 0 = 2
            go 0 0 1198 0 = 0
            bridge 0 3 1199 = 0
            payOut 0 = 3
            payOut 0 = 0                 # it is 1199 months old
            payOut 0 ! ISE
            ofStream 0 4 = 2
            """);
    }

    private static void ofStream() {
        Script.run("49 ofStream", RETIRED + """
            member 0 = 1
            ofStream 0 0 ! IOOBE
            terms 2 0 0 0 0 = 2
            go 1 2 7 2 = 0
            go 0 0 120 1 = 1
            payOut 1 = 100
            ofStream 0 0 = 1
            ofStream 0 1 = 2
            ofStream 0 2 = 7
            ofStream 0 3 = 2
            ofStream 0 4 = 0
            ofStream 0 5 = 0
            ofStream 0 6 = 0
            ofStream 0 7 = 0
            ofStream 1 3 = 1
            ofStream 1 4 = 1
            ofStream 1 5 = 100
            ofStream 1 7 = 100
            ofStream 0 -1 ! IAE
            ofStream 0 8 ! IAE
            ofStream 2 8 ! IOOBE
            ofStream -1 0 ! IOOBE
            count 8 = 100
            """);
    }
}
