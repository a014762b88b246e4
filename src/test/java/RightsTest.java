/** Promises 9 (rule), 10 (terms), 12 (tie), 32 to 36 (earned, isOwn, factor, pension, face), 45 (best), 46 (wouldEarn). */
public final class RightsTest {
    public static void main(String[] none) {
        rule();
        ruleLimits();
        earned();
        bend();
        terms();
        factor();
        tie();
        own();
        pension();
        face();
        best();
        wouldEarn();
        Script.end();
    }

    private static void rule() {
        Script.run("9 rule", """
            rule 3 0 0 0 0 ! IOOBE
            rule -1 -1 51 61 51 ! IOOBE
            rule 0 -1 0 0 0 ! IAE
            rule 0 6000 0 0 0 ! IAE
            rule 0 0 -1 0 0 ! IAE
            rule 0 0 51 0 0 ! IAE
            rule 0 0 0 -1 0 ! IAE
            rule 0 0 0 61 0 ! IAE
            rule 0 0 0 0 -1 ! IAE
            rule 0 0 0 0 51 ! IAE
            count 3 = 0
            member 0 = 0
            spell 0 0 0 5999 100 0 = 0
            earned 0 0 60 = 1/50        # a year's time at the first rate
            rule 0 0 50 60 0 = 1        # in the place of the first one
            earned 0 0 60 = 1/20
            rule 0 30 0 60 0 = 2
            earned 0 0 60 = 1/40
            rule 0 15 10 60 0 = 3       # told later, for an earlier day
            earned 0 0 15 = 1/80
            earned 0 0 60 = 3/200
            rule 0 15 30 60 0 = 3
            earned 0 0 60 = 1/50
            rule 0 5999 50 60 50 = 4
            earned 0 0 5999 = 1/50
            earned 0 1 5999 = 0
            undo = 6
            undo = 5
            earned 0 0 60 = 3/200
            """);
    }

    private static void ruleLimits() {
        Script.run("9 six rules", """
            rule 1 50 1 1 1 = 2
            rule 1 40 1 1 1 = 3
            rule 1 30 1 1 1 = 4
            rule 1 20 1 1 1 = 5
            rule 1 10 1 1 1 = 6
            rule 1 60 1 1 1 ! ISE
            rule 1 5 1 1 1 ! ISE
            rule 1 5 51 1 1 ! IAE
            rule 1 0 2 2 2 = 6
            rule 1 50 2 2 2 = 6
            rule 1 10 2 2 2 = 6
            ofHouse 1 0 = 6
            ofHouse 0 0 = 1
            """);
    }

    private static void earned() {
        Script.run("32 earned", """
            member 0 = 0
            spell 0 1 10 19 50 0 = 0
            earned 0 1 0 = 0
            earned 0 1 10 = 0            # ahead of the day, without it
            earned 0 1 11 = 1/6000
            earned 0 1 20 = 1/600
            earned 0 1 5999 = 1/600
            earned 0 0 5999 = 0
            spell 0 1 30 39 50 1 = 1
            earned 0 1 40 = 1/300        # rest earns as work does
            spell 0 0 35 39 100 0 = 2
            earned 0 1 40 = 1/400        # but only what it has
            earned 1 0 0 ! IOOBE
            earned 0 3 0 ! IOOBE
            earned 0 -1 -1 ! IOOBE
            earned 0 0 -1 ! IAE
            earned 0 0 6000 ! IAE
            spell 0 2 5999 5999 100 0 = 3
            earned 0 2 5999 = 0
            """);
    }

    private static void bend() {
        Script.run("32 earned, behind the bend", """
            member 0 = 0
            spell 0 0 0 5999 100 0 = 0
            earned 0 0 1800 = 3/5
            earned 0 0 1801 = 3601/6000  # thirty years are full: half of it
            earned 0 0 1860 = 61/100
            earned 0 0 5999 = 7799/6000  # 1800 days by 20, 4199 by 10
            rule 0 600 50 5 1 = 2
            earned 0 0 600 = 1/5
            earned 0 0 660 = 201/1000    # the time ahead counts, whatever the rule of then
            rule 0 600 50 11 1 = 2
            earned 0 0 660 = 1/4
            earned 0 0 720 = 251/1000
            rule 0 600 50 0 1 = 2
            earned 0 0 660 = 201/1000
            rule 0 0 50 0 0 = 2
            earned 0 0 600 = 0
            """);
        Script.run("32 earned, the bend within a part of a day", """
            member 0 = 0
            rule 1 0 50 1 10 = 1
            spell 0 1 0 99 70 0 = 0
            earned 0 1 85 = 119/2400     # 85 days of 70 are 5950: still below 6000
            earned 0 1 86 = 301/6000     # the whole next day by the first rate
            earned 0 1 87 = 3017/60000
            spell 0 1 0 59 100 0 = 1
            earned 0 1 60 = 1/20
            earned 0 1 61 = 3007/60000   # 6000 are not less than 6000
            """);
        Script.run("32 earned, one hundredth ahead of the bend", """
            member 0 = 0
            rule 0 0 50 1 0 = 1
            spell 0 0 0 999 7 0 = 0
            earned 0 0 857 = 5999/120000
            earned 0 0 858 = 1001/20000  # 5999 are less than 6000
            earned 0 0 999 = 1001/20000
            """);
    }

    private static void terms() {
        Script.run("10 terms", """
            terms 3 0 0 0 0 ! IOOBE
            terms -1 21 1200 11 11 ! IOOBE
            terms 0 -1 0 0 0 ! IAE
            terms 0 21 0 0 0 ! IAE
            terms 0 0 -1 0 0 ! IAE
            terms 0 0 1200 0 0 ! IAE
            terms 0 0 0 -1 0 ! IAE
            terms 0 0 0 11 0 ! IAE
            terms 0 0 0 0 -1 ! IAE
            terms 0 0 0 0 11 ! IAE
            count 3 = 0
            terms 0 20 1199 10 10 = 2
            terms 0 0 0 0 0 = 20
            ofHouse 0 1 = 0
            ofHouse 0 2 = 0
            ofHouse 1 1 = 2
            ofHouse 1 2 = 720
            undo = 1
            ofHouse 0 1 = 20
            ofHouse 0 2 = 1199
            """);
    }

    private static void factor() {
        Script.run("34 factor", """
            member 0 = 0
            member 64 = 1
            member 5999 = 2
            factor 0 0 720 = 1000
            factor 0 0 719 = 997
            factor 0 0 721 = 1005
            factor 0 0 780 = 1300
            factor 0 0 781 = 1300      # sixty months at most
            factor 0 0 1199 = 1300
            factor 0 0 387 = 1
            factor 0 0 386 = 0
            factor 0 0 0 = 0
            factor 1 0 732 = 1000      # born in the month 12
            factor 1 0 731 = 997
            factor 2 0 0 = 0           # younger than nothing
            factor 2 0 1199 = 0
            terms 1 0 10 1 2 = 2
            factor 2 1 1199 = 990
            factor 2 1 0 = 0           # 1209 below
            factor 2 1 200 = 0
            factor 2 1 210 = 1
            factor 0 1 10 = 1000
            factor 0 1 9 = 999
            factor 0 1 12 = 1004
            terms 1 0 10 0 0 = 0
            factor 2 1 0 = 1000
            factor 0 1 1199 = 1000
            factor 3 0 0 ! IOOBE
            factor 0 3 0 ! IOOBE
            factor 0 3 -1 ! IOOBE
            factor 0 0 -1 ! IAE
            factor 0 0 1200 ! IAE
            """);
    }

    private static void tie() {
        Script.run("12 tie", """
            tie 3 0 true ! IOOBE
            tie 0 3 true ! IOOBE
            tie -1 -1 true ! IOOBE
            tie 1 1 true ! IAE
            tie 1 1 false ! IAE
            count 3 = 0
            tie 0 2 false = 0
            tie 2 0 true = 1
            ofHouse 0 10 = 5
            ofHouse 1 10 = 2
            ofHouse 2 10 = 5
            tie 0 2 true = 1
            tie 1 2 true = 2
            ofHouse 0 10 = 7
            ofHouse 1 10 = 7
            tie 0 1 true = 3
            tie 2 0 false = 2
            ofHouse 0 10 = 7      # still, by the house 1
            ofHouse 2 10 = 7
            tie 1 2 false = 1
            ofHouse 0 10 = 3
            ofHouse 1 10 = 3
            ofHouse 2 10 = 4
            tie 1 0 false = 0
            ofHouse 0 10 = 1
            undo = 7
            ofHouse 1 10 = 3
            """);
    }

    private static void own() {
        Script.run("33 isOwn", """
            member 0 = 0
            isOwn 0 0 5999 = false
            spell 0 0 0 119 100 0 = 0
            isOwn 0 0 119 = false
            isOwn 0 0 120 = true       # two years are full
            isOwn 0 1 120 = false
            spell 0 1 200 259 100 0 = 1
            isOwn 0 1 5999 = false
            tie 0 2 true = 1
            isOwn 0 1 5999 = false
            isOwn 0 2 119 = false
            isOwn 0 2 120 = true       # by the time at the house that is tied to it
            tie 2 1 true = 2
            isOwn 0 1 120 = true
            terms 1 3 0 0 0 = 2
            isOwn 0 1 259 = false
            isOwn 0 1 260 = true
            isOwn 0 0 120 = true       # its own vest
            terms 1 0 0 0 0 = 3
            isOwn 0 1 0 = true
            terms 0 20 0 0 0 = 2
            isOwn 0 0 5999 = false
            member 0 = 1
            spell 1 0 0 118 100 0 = 0
            spell 1 0 200 200 99 0 = 1
            terms 0 2 0 0 0 = 20
            isOwn 1 0 5999 = false     # 11999
            spell 1 1 300 300 1 0 = 2
            isOwn 1 0 300 = false
            isOwn 1 0 301 = true
            isOwn 2 0 0 ! IOOBE
            isOwn 0 3 0 ! IOOBE
            isOwn 0 0 -1 ! IAE
            isOwn 0 0 6000 ! IAE
            isOwn 0 3 6000 ! IOOBE
            """);
    }

    private static final String WORKER = """
            member 0 = 0
            spell 0 0 0 599 100 0 = 0
            wage 0 0 0 100 = 0
            """;

    private static void pension() {
        Script.run("35 pension", WORKER + """
            terms 0 2 120 1 2 = 2
            pension 0 0 0 = 0
            pension 0 0 23 = 0             # not yet its own
            pension 0 0 24 = 904/375       # 1/25 of 800, times 904
            pension 0 0 119 = 39627/2000   # 1190 of 6000 of 1200, times 999
            pension 0 0 120 = 20           # a fifth of 1200, a month
            pension 0 0 121 = 501/25
            pension 0 0 180 = 112/5
            pension 0 0 181 = 112/5
            pension 0 1 120 = 0
            form 0 1 1 0 = 0
            pension 0 0 1199 = 112/5
            terms 0 0 1199 10 0 = 2
            pension 0 0 120 = 0            # no factor is left
            pension 0 0 1198 = 99/5
            pension 1 0 0 ! IOOBE
            pension 0 3 0 ! IOOBE
            pension 0 3 -1 ! IOOBE
            pension 0 0 -1 ! IAE
            pension 0 0 1200 ! IAE
            """);
    }

    private static void face() {
        Script.run("36 face", WORKER + """
            terms 0 2 120 1 2 = 2
            face 0 0 0 = 0.00
            face 0 0 24 = 2.41             # 2.4106..
            face 0 0 120 = 20.00
            face 0 0 121 = 20.04
            face 0 0 180 = 22.40
            wage 0 0 0 1 = 100
            face 0 0 120 = 0.20
            face 0 0 24 = 0.02             # 0.0241..
            wage 0 0 0 9999 = 1
            face 0 0 120 = 1999.80
            price 0 1 = 100
            price 10 9999 = 1
            face 0 0 120 = 19996000.20
            face 1 0 0 ! IOOBE
            face 0 3 0 ! IOOBE
            face 0 0 -1 ! IAE
            face 0 0 1200 ! IAE
            """);
    }

    private static void best() {
        Script.run("45 best", WORKER + """
            terms 0 2 120 10 0 = 2
            best 0 0 100 136 1000 = 120    # each month ahead of 120 lessens it, none behind raises it
            best 0 0 121 157 1000 = 121    # the sooner, the longer
            best 0 0 100 110 1000 = 110
            best 0 0 0 20 20 = 0           # nothing at all: the first one
            best 0 0 120 120 120 = 120
            best 0 0 119 120 120 = 119     # none are left behind 120
            best 0 0 1163 1199 1199 = 1163
            best 0 0 1164 1199 1199 = 1164
            best 0 0 100 137 1000 ! IAE
            best 0 0 100 99 1000 ! IAE
            best 0 0 100 136 135 ! IAE
            best 0 0 100 136 1200 ! IAE
            best 0 0 -1 10 1000 ! IAE
            best 0 0 1170 1200 1200 ! IAE
            best 0 0 2147483647 -2147483648 0 ! IAE
            best 1 0 -1 10 1000 ! IOOBE
            best 0 3 -1 10 1000 ! IOOBE
            terms 0 2 120 10 10 = 2
            best 0 0 100 136 220 = 120     # 1000 * 100, then 1010 * 99
            best 0 0 110 136 280 = 136     # still rising
            best 0 0 121 157 260 = 140     # 1200 * 120, the two beside it are less
            best 0 0 121 157 261 = 140     # 1200 * 121 is 1210 * 120: the smaller one
            """);
    }

    private static void wouldEarn() {
        Script.run("46 wouldEarn", """
            wouldEarn 0 0 0 0 1 ! IOOBE
            member 20 = 0
            wouldEarn 0 3 30 29 0 ! IOOBE
            wouldEarn 1 0 30 29 0 ! IOOBE
            wouldEarn 0 0 30 29 50 ! IAE
            wouldEarn 0 0 -1 29 50 ! IAE
            wouldEarn 0 0 30 6000 50 ! IAE
            wouldEarn 0 0 30 40 0 ! IAE
            wouldEarn 0 0 30 40 101 ! IAE
            wouldEarn 0 0 19 40 101 ! IAE
            wouldEarn 0 0 19 40 100 ! ISE
            wouldEarn 0 0 20 20 1 = 1/300000
            wouldEarn 0 0 5940 5999 100 = 1/50     # the day behind it is none, but all ahead of that are
            spell 0 0 40 99 50 1 = 0
            wouldEarn 0 0 70 99 100 = 3/200
            wouldEarn 0 0 20 69 50 = 1/120         # what comes behind does not count
            wouldEarn 0 1 40 99 100 = 1/100
            spell 0 0 80 99 1 2 = 1
            wouldEarn 0 0 70 99 100 = 1/120
            death 0 74 = -1
            wouldEarn 0 0 70 99 100 = 1/150
            ofMember 0 2 = 2
            earned 0 0 5999 = 7/1200
            count 3 = 4
            """);
    }
}
