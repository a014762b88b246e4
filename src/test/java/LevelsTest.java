/** Promises 16 (raise), 18 (lessen), 19 (annuity), 40 (level), 41 (ofClass), 42 to 44 (value, transferred, lump). */
public final class LevelsTest {
    public static void main(String[] none) {
        raise();
        level();
        levelMadeUp();
        levelAtItsMost();
        lessen();
        lessenLimits();
        ofClass();
        annuity();
        annuityLimits();
        value();
        valueOfTheYoung();
        transferred();
        lump();
        Script.end();
    }

    private static void raise() {
        Script.run("16 raise", """
            raise 3 0 0 ! IOOBE
            raise -1 9 8 ! IOOBE
            raise 0 0 -1 ! IAE
            raise 0 0 31 ! IAE
            raise 0 -11 0 ! IAE
            raise 0 6 5 ! IAE
            count 3 = 0
            raise 0 -10 0 = 5
            raise 0 30 30 = 0
            ofHouse 0 5 = 30
            ofHouse 0 6 = 30
            raise 0 4 9 = 30
            ofHouse 0 5 = 4
            ofHouse 0 6 = 9
            ofHouse 1 6 = 5
            undo = 2
            ofHouse 0 5 = 30
            """);
    }

    private static void level() {
        Script.run("40 level", """
            price 10 104 = 100
            price 11 99 = 104
            price 12 100 = 99
            level 0 9 9 = 1
            level 0 9 10 = 26/25
            level 0 9 11 = 26/25          # never below the one before
            level 0 9 12 = 26/25
            level 0 10 11 = 1
            level 0 11 12 = 100/99
            level 0 11 31 = 100/99
            level 0 11 32 ! IAE
            level 0 11 10 ! IAE
            level 0 80 100 ! IAE
            level 0 80 99 = 1
            level 0 100 100 ! IAE
            level 0 -1 5 ! IAE
            level 0 -1 -1 ! IAE
            level 0 2147483647 2147483647 ! IAE
            level 3 100 100 ! IOOBE
            level -1 0 0 ! IOOBE
            raise 0 -10 5 = 5
            level 0 9 11 = 99/100
            price 11 50 = 99
            level 0 9 11 = 117/125        # nine tenths of 26/25
            level 1 9 11 = 26/25          # the other house has its own floor
            raise 0 3 5 = 5
            level 0 9 10 = 26/25
            level 0 9 11 = 1339/1250
            """);
    }

    private static void levelMadeUp() {
        Script.run("40 level, what was missed", """
            price 1 112 = 100
            level 0 0 1 = 21/20
            level 0 0 2 = 441/400         # 1.1025, not yet 1.12
            level 0 0 3 = 28/25
            level 0 0 4 = 28/25
            level 0 1 4 = 1
            price 3 130 = 112
            level 0 0 3 = 9261/8000
            level 0 0 4 = 194481/160000
            level 0 0 6 = 13/10
            raise 0 0 0 = 5
            level 0 0 6 = 1
            """);
    }

    private static void levelAtItsMost() {
        java.math.BigInteger above = java.math.BigInteger.valueOf(13).pow(20);
        java.math.BigInteger below = java.math.BigInteger.TEN.pow(20);
        java.math.BigInteger least = java.math.BigInteger.valueOf(9).pow(20);
        Script.run("40 level, twenty times", "raise 2 30 30 = 5\nlevel 2 0 20 = " + above + "/" + below
            + "\nraise 2 -10 0 = 30\nprice 1 1 = 100\nlevel 2 0 20 = " + least + "/" + below + "\nlevel 2 1 20 = 1");
    }

    private static void lessen() {
        Script.run("18 lessen", """
            lessen 3 0 0 ! IOOBE
            lessen -1 -1 301 ! IOOBE
            lessen 0 -1 0 ! IAE
            lessen 0 1200 0 ! IAE
            lessen 0 0 301 ! IAE
            lessen 0 0 -301 ! IAE
            count 3 = 0
            lessen 0 100 30 = 270
            lessen 0 200 300 = 0
            lessen 0 150 -300 = 300        # at most 300
            lessen 0 150 10 = 290
            lessen 0 200 10 = 0            # at least 0
            lessen 0 210 -20 = 20
            lessen 0 99 1 = 299
            lessen 0 120 1 = 269
            ofHouse 0 8 = 6
            ofHouse 1 8 = 0
            ofClass 0 2 99 = 99
            ofClass 0 2 119 = 70
            ofClass 0 2 120 = 69
            ofClass 0 2 150 = 90
            ofClass 0 0 199 = 100
            ofClass 0 0 200 = 0
            ofClass 0 0 210 = 20
            undo = 7
            lessen 0 120 1 = 269
            """);
    }

    private static void lessenLimits() {
        Script.run("18 eight beginnings", """
            lessen 0 80 1 = 299
            lessen 0 70 1 = 299
            lessen 0 60 1 = 299
            lessen 0 50 1 = 299
            lessen 0 40 1 = 299
            lessen 0 30 1 = 299
            lessen 0 20 1 = 299
            lessen 0 10 1 = 299
            lessen 0 45 1 ! ISE
            lessen 0 45 301 ! IAE
            lessen 0 80 1 = 298
            lessen 0 10 1 = 298
            lessen 1 45 1 = 299
            ofHouse 0 8 = 8
            count 3 = 8
            """);
    }

    private static void ofClass() {
        Script.run("41 ofClass", """
            ofClass 0 0 0 = 100
            ofClass 0 1 0 = 100
            ofClass 0 2 0 = 100
            lessen 0 10 50 = 250
            ofClass 0 2 9 = 100
            ofClass 0 2 10 = 50
            ofClass 0 1 10 = 100
            lessen 0 20 100 = 150
            ofClass 0 2 20 = 0
            ofClass 0 1 20 = 50
            ofClass 0 0 20 = 100
            lessen 0 30 149 = 1
            ofClass 0 1 1199 = 0
            ofClass 0 0 1199 = 1
            ofClass 3 0 0 ! IOOBE
            ofClass 0 3 0 ! IOOBE
            ofClass 0 -1 -1 ! IOOBE
            ofClass 0 0 -1 ! IAE
            ofClass 0 0 1200 ! IAE
            """);
    }

    private static void annuity() {
        Script.run("19 annuity", """
            annuity 3 0 1 ! IOOBE
            annuity -1 -1 0 ! IOOBE
            annuity 0 -1 1 ! IAE
            annuity 0 100 1 ! IAE
            annuity 0 0 0 ! IAE
            annuity 0 0 41 ! IAE
            count 3 = 0
            annuity 0 50 40 = 20
            annuity 0 99 1 = 40
            annuity 0 60 30 = 40
            annuity 0 60 29 = 30
            annuity 0 49 21 = 20
            annuity 0 59 3 = 40
            ofHouse 0 9 = 5
            ofHouse 1 9 = 0
            undo = 5
            annuity 0 59 3 = 40
            """);
    }

    private static void annuityLimits() {
        Script.run("19 six beginnings", """
            annuity 2 60 1 = 20
            annuity 2 50 1 = 20
            annuity 2 40 1 = 20
            annuity 2 30 1 = 20
            annuity 2 20 1 = 20
            annuity 2 10 1 = 20
            annuity 2 0 1 ! ISE
            annuity 2 99 1 ! ISE
            annuity 2 99 0 ! IAE
            annuity 2 60 2 = 1
            annuity 2 10 2 = 1
            annuity 1 99 1 = 20
            ofHouse 2 9 = 6
            """);
    }

    /** Twenty years of a hundred, at 600 a month: the pension is two fifths of that. */
    private static final String RETIRED = """
            member 600 = 0
            terms 0 2 0 0 0 = 2
            terms 1 2 0 0 0 = 2
            spell 0 0 600 1799 100 0 = 0
            wage 0 0 0 600 = 0
            form 0 1 1 0 = 0
            pension 0 0 360 = 240
            """;

    private static void value() {
        Script.run("42 value", RETIRED + """
            value 0 0 360 = 57600              # 240 * 12 * 20
            annuity 0 20 15 = 20
            value 0 0 360 = 43200              # it is 20 years old in the month 360
            value 0 0 359 = 57360
            annuity 0 21 1 = 15
            value 0 0 371 = 43200
            value 0 0 372 = 2880
            value 0 0 143 = 0
            value 0 1 360 = 0
            value 1 0 360 ! IOOBE
            value 1 0 -1 ! IOOBE
            value 0 3 360 ! IOOBE
            value 0 3 -1 ! IOOBE
            value 0 0 -1 ! IAE
            value 0 0 1200 ! IAE
            """);
    }

    private static void valueOfTheYoung() {
        Script.run("42 value, by the age in years", """
            member 30 = 0
            terms 0 0 0 0 0 = 2
            form 0 2 1 99999 = 0
            spell 0 0 30 59 100 0 = 0
            wage 0 0 0 500 = 0
            annuity 0 1 5 = 20
            pension 0 0 12 = 5/2
            value 0 0 12 = 600           # 6 months are no year
            value 0 0 17 = 600
            value 0 0 18 = 150
            annuity 0 0 7 = 20
            value 0 0 17 = 210
            value 0 0 18 = 150
            """);
    }

    private static void transferred() {
        Script.run("43 transferred", RETIRED + """
            transferred 0 0 0 360 = 240
            transferred 0 0 1 360 = 240
            annuity 1 20 15 = 20
            transferred 0 0 1 360 = 320
            transferred 0 0 1 359 = 239
            annuity 0 20 7 = 20
            transferred 0 0 1 360 = 112
            transferred 0 0 2 360 = 84
            transferred 0 0 0 360 = 240
            transferred 0 1 0 360 = 0
            transferred 1 0 0 360 ! IOOBE
            transferred 0 3 0 360 ! IOOBE
            transferred 0 0 3 360 ! IOOBE
            transferred 0 0 -1 -1 ! IOOBE
            transferred 0 0 0 -1 ! IAE
            transferred 0 0 0 1200 ! IAE
            """);
    }

    private static void lump() {
        Script.run("44 lump", RETIRED + """
            lump 0 0 360 0 = 0 240
            lump 0 0 360 100 = 57600 0
            lump 0 0 360 25 = 14400 180
            lump 0 0 360 1 = 576 1188/5
            lump 0 1 360 50 = 0 0
            lump 1 0 360 50 ! IOOBE
            lump 0 3 -1 101 ! IOOBE
            lump 1 0 360 101 ! IOOBE
            lump 0 0 -1 50 ! IAE
            lump 0 0 1200 50 ! IAE
            lump 0 0 360 -1 ! IAE
            lump 0 0 360 101 ! IAE
            price 0 1 = 100
            price 30 9999 = 1
            wage 0 0 0 9999 = 600
            pension 0 0 360 = 199960002/5
            lump 0 0 360 0 = 0 199960002/5
            lump 0 0 360 100 = 9598080096 0
            """);
    }
}
