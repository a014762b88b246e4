/** Promises 13 (marry), 14 (divide), 15 (widows), 37 (kept), 38 (given), 39 (widow), 52 (ofMarriage). */
public final class SpousesTest {
    public static void main(String[] none) {
        marry();
        marryAgain();
        marriageLimits();
        divide();
        divideAheadOfAnother();
        ofMarriage();
        given();
        givenTwice();
        kept();
        widows();
        widow();
        Script.end();
    }

    private static final String FOUR = """
            member 0 = 0
            member 60 = 1
            member 0 = 2
            member 6 = 3
            """;

    private static void marry() {
        Script.run("13 marry", FOUR + """
            marry 0 4 0 ! IOOBE
            marry 4 0 0 ! IOOBE
            marry -1 -1 0 ! IOOBE
            marry 1 1 0 ! IAE
            marry 0 1 -1 ! IAE
            marry 0 1 6000 ! IAE
            count 3 = 4
            death 0 99 = -1
            marry 0 1 100 ! ISE          # died ahead of it
            marry 1 0 100 ! ISE
            marry 0 1 6000 ! IAE
            marry 0 1 99 = 0             # on that very day it can
            ofMember 0 3 = 0
            ofMember 1 3 = 0
            ofMember 2 3 = -1
            marry 2 3 50 = 1
            marry 0 1 99 ! ISE
            ofMember 3 3 = 1
            count 1 = 2
            undo = 6
            count 1 = 1
            ofMember 3 3 = -1
            """);
    }

    private static void marryAgain() {
        Script.run("13 marry again", FOUR + """
            marry 0 1 100 = 0
            marry 0 2 100 ! ISE
            marry 2 1 5999 ! ISE
            marry 2 1 50 ! ISE           # also ahead of it: it is not divided
            divide 0 200 50 = 100
            marry 0 2 199 ! ISE
            marry 2 1 0 ! ISE
            marry 0 2 200 = 1
            marry 3 1 201 = 2
            death 2 300 = -1
            marry 0 3 300 ! ISE
            death 3 400 = -1
            marry 0 1 301 ! ISE          # the other one of 1 did not die ahead of it
            marry 0 1 400 ! ISE
            marry 0 1 401 = 3
            ofMember 0 3 = 3
            ofMember 2 3 = 1
            ofMember 1 3 = 3
            """);
    }

    private static void marriageLimits() {
        Script.run("13 four marriages", FOUR + """
            marry 0 1 10 = 0
            divide 0 20 1 = 10
            marry 0 1 20 = 1
            divide 1 21 1 = 1
            marry 1 0 30 = 2
            divide 2 40 1 = 10
            marry 0 2 40 = 3
            marry 1 3 50 ! ISE
            marry 3 3 50 ! IAE
            count 1 = 4
            ofMember 0 3 = 3
            ofMember 1 3 = 2
            """);
    }

    private static void divide() {
        Script.run("14 divide", FOUR + """
            divide 0 0 0 ! IOOBE
            marry 0 1 100 = 0
            divide 1 0 0 ! IOOBE
            divide -1 -1 -1 ! IOOBE
            divide 0 -1 0 ! IAE
            divide 0 6000 0 ! IAE
            divide 0 200 -1 ! IAE
            divide 0 200 101 ! IAE
            divide 0 100 101 ! IAE
            divide 0 100 50 ! ISE        # not behind its beginning
            divide 0 99 50 ! ISE
            ofMarriage 0 3 = -1
            ofMarriage 0 4 = -1
            death 1 150 = -1
            divide 0 151 50 ! ISE
            divide 0 150 0 = 50
            ofMarriage 0 3 = 150
            ofMarriage 0 4 = 0
            divide 0 160 50 ! ISE
            divide 0 120 50 ! ISE
            undo = 6
            ofMarriage 0 3 = -1
            death 1 -1 = 150
            death 0 130 = -1
            divide 0 131 100 ! ISE
            divide 0 101 100 = 1
            """);
    }

    private static void divideAheadOfAnother() {
        Script.run("14 divide, ahead of another marriage", FOUR + """
            marry 0 1 100 = 0
            death 1 150 = -1
            marry 2 0 200 = 1
            death 1 -1 = 150             # told wrongly: it lives
            divide 0 201 10 ! ISE        # a greater number is from an earlier day on
            divide 0 200 10 = 100
            divide 1 5999 20 = 5799
            marry 1 3 200 = 2
            divide 2 201 30 = 1
            """);
        Script.run("14 divide, the other one of both in another marriage", FOUR + """
            marry 0 1 100 = 0
            death 0 150 = -1
            marry 3 1 160 = 1
            death 0 -1 = 150
            divide 0 161 10 ! ISE
            divide 1 161 10 = 1
            divide 0 161 10 ! ISE        # also if that one is divided
            divide 0 160 10 = 60
            """);
    }

    private static void ofMarriage() {
        Script.run("52 ofMarriage", FOUR + """
            ofMarriage 0 0 ! IOOBE
            marry 3 1 77 = 0
            ofMarriage 0 0 = 3
            ofMarriage 0 1 = 1
            ofMarriage 0 2 = 77
            ofMarriage 0 3 = -1
            ofMarriage 0 4 = -1
            divide 0 80 9 = 3
            ofMarriage 0 3 = 80
            ofMarriage 0 4 = 9
            ofMarriage 0 5 ! IAE
            ofMarriage 0 -1 ! IAE
            ofMarriage 1 5 ! IOOBE
            ofMarriage -1 0 ! IOOBE
            """);
    }

    /** Two hundred days of a hundred, at 600 a month, each day a fifth of a coin of pension. */
    private static final String COUPLE = """
            member 0 = 0
            member 0 = 1
            member 0 = 2
            terms 0 0 0 0 0 = 2
            spell 0 0 0 199 100 0 = 0
            wage 0 0 0 600 = 0
            form 0 2 1 99999 = 0
            pension 0 0 40 = 40
            pension 0 0 36 = 36
            """;

    private static void given() {
        Script.run("38 given", COUPLE + """
            marry 0 1 60 = 0
            given 0 1 0 36 36 = 0          # not divided
            divide 0 120 50 = 60
            given 0 1 0 36 36 = 6          # half of a third
            given 0 1 0 36 0 = 6           # whenever that month is
            given 0 1 0 36 1199 = 6
            given 0 1 0 24 24 = 6          # 24, half of a half
            given 0 1 0 15 15 = 3/2        # 15, of the marriage 15 days
            given 0 1 0 12 12 = 0          # 12, all of it ahead of the marriage
            given 0 1 0 0 0 = 0
            given 1 0 0 36 36 = 0          # has no pension
            given 0 2 0 36 36 = 0
            given 0 1 1 36 36 = 0
            death 1 200 = -1
            given 0 1 0 36 40 = 6
            given 0 1 0 36 41 = 0          # died ahead of it
            death 1 199 = 200
            given 0 1 0 36 40 = 0
            given 0 1 0 36 39 = 6
            given 0 3 0 36 36 ! IOOBE
            given 3 0 0 36 36 ! IOOBE
            given 0 0 3 36 36 ! IOOBE
            given 0 0 0 36 36 ! IAE
            given 0 1 0 -1 36 ! IAE
            given 0 1 0 1200 36 ! IAE
            given 0 1 0 36 -1 ! IAE
            given 0 1 0 36 1200 ! IAE
            """);
    }

    private static void givenTwice() {
        Script.run("38 given, of two marriages of the same", COUPLE + """
            marry 0 1 0 = 0
            divide 0 30 100 = 30
            marry 1 0 60 = 1
            divide 1 90 10 = 30
            given 0 1 0 36 36 = 33/5       # 6, and a tenth of 6
            marry 0 2 90 = 2
            divide 2 150 100 = 60
            given 0 2 0 36 36 = 12
            kept 0 0 36 36 = 87/5
            rule 0 0 50 1 0 = 1            # all is earned on the first sixty days
            pension 0 0 36 = 30
            given 0 1 0 36 36 = 15
            given 0 2 0 36 36 = 0
            """);
    }

    private static void kept() {
        Script.run("37 kept", COUPLE + """
            kept 0 0 36 36 = 36
            marry 0 1 60 = 0
            divide 0 120 50 = 60
            marry 0 2 120 = 1
            kept 0 0 36 36 = 30
            divide 1 180 100 = 60
            kept 0 0 36 36 = 18
            kept 0 0 36 1199 = 18
            kept 1 0 36 36 = 0
            kept 0 0 0 0 = 0
            death 2 300 = -1
            kept 0 0 36 60 = 18
            kept 0 0 36 61 = 30            # what was given comes back
            death 1 400 = -1
            kept 0 0 36 80 = 30
            kept 0 0 36 81 = 36
            death 0 250 = -1               # its own death is none of these
            kept 0 0 36 60 = 18
            kept 3 0 36 36 ! IOOBE
            kept 0 3 36 36 ! IOOBE
            kept 0 3 -1 36 ! IOOBE
            kept 0 0 -1 36 ! IAE
            kept 0 0 1200 36 ! IAE
            kept 0 0 36 -1 ! IAE
            kept 0 0 36 1200 ! IAE
            """);
    }

    private static void widows() {
        Script.run("15 widows", """
            widows 3 0 ! IOOBE
            widows -1 101 ! IOOBE
            widows 0 -1 ! IAE
            widows 0 101 ! IAE
            count 3 = 0
            widows 0 0 = 60
            widows 0 100 = 0
            ofHouse 0 4 = 100
            ofHouse 1 4 = 60
            undo = 1
            ofHouse 0 4 = 0
            """);
    }

    private static void widow() {
        Script.run("39 widow", COUPLE + """
            widow 1 0 = 0
            marry 1 0 60 = 0
            widow 1 0 = 0                  # it lives
            death 0 184 = -1
            widow 1 0 = 108/5              # sixty hundredths of 36, the month 36 is that of the death
            widow 0 0 = 0
            widow 2 0 = 0
            widow 1 1 = 0
            widows 0 25 = 60
            widow 1 0 = 9
            death 0 60 = 184
            widow 1 0 = 3                  # a quarter of 12: the days of that month do not count
            death 0 59 = 60
            widow 1 0 = 0                  # ahead of the marriage
            death 0 184 = 59
            marry 1 2 190 = 1
            widow 1 0 = 0                  # this is the last one now
            undo = 7
            widow 1 0 = 9
            divide 0 180 50 = 120
            widow 1 0 = 0                  # divided
            widow 3 0 ! IOOBE
            widow -1 0 ! IOOBE
            widow 1 3 ! IOOBE
            widow 1 -1 ! IOOBE
            """);
        Script.run("39 widow, of one that gave to another", COUPLE + """
            marry 0 2 60 = 0
            divide 0 120 50 = 60
            marry 0 1 120 = 1
            death 0 180 = -1
            widow 1 0 = 18                 # of 30
            widow 2 0 = 0
            death 2 179 = -1
            widow 1 0 = 108/5              # of 36: 2 died ahead of the month 36
            death 2 180 = 179
            widow 1 0 = 18
            """);
    }
}
