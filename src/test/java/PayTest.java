/** Promises 7 (wage), 8 (price), 11 (form), 30 (yearPay) and 31 (base). */
public final class PayTest {
    public static void main(String[] none) {
        wage();
        wageLimits();
        price();
        priceLimits();
        yearPay();
        form();
        bestYears();
        allYears();
        lastYears();
        manyPrices();
        Script.end();
    }

    private static void wage() {
        Script.run("7 wage", """
            wage 0 0 0 1 ! IOOBE
            member 0 = 0
            wage 0 3 0 1 ! IOOBE
            wage 0 -1 0 1 ! IOOBE
            wage 1 0 0 1 ! IOOBE
            wage 1 0 -1 -1 ! IOOBE
            wage 0 0 -1 1 ! IAE
            wage 0 0 1200 1 ! IAE
            wage 0 0 0 -1 ! IAE
            wage 0 0 0 10000 ! IAE
            count 3 = 1
            wage 0 0 24 9999 = 0
            wage 0 0 36 7 = 9999
            wage 0 0 12 5 = 0       # told later, for an earlier month
            wage 0 0 30 6 = 9999
            wage 0 0 30 8 = 6       # told again, in the place of that one
            wage 0 0 1199 0 = 7
            wage 0 1 100 3 = 0      # another house
            wage 0 0 11 1 = 0
            wage 0 0 13 2 = 5
            undo = 7
            wage 0 0 13 2 = 5
            undo = 7
            undo = 6
            undo = 5
            undo = 4
            undo = 3
            wage 0 0 30 4 = 6
            """);
    }

    private static void wageLimits() {
        Script.run("7 eight wages", """
            member 0 = 0
            member 0 = 1
            wage 0 2 80 8 = 0
            wage 0 2 70 7 = 0
            wage 0 2 60 6 = 0
            wage 0 2 50 5 = 0
            wage 0 2 40 4 = 0
            wage 0 2 30 3 = 0
            wage 0 2 20 2 = 0
            wage 0 2 10 1 = 0
            wage 0 2 45 1 ! ISE
            wage 0 2 1200 1 ! IAE
            wage 0 2 45 10000 ! IAE
            wage 0 2 80 9 = 8
            wage 0 2 10 9 = 1
            wage 0 2 50 9 = 5
            wage 0 1 45 1 = 0
            wage 1 2 45 1 = 0
            wage 0 2 0 1 ! ISE
            count 3 = 8
            """);
    }

    private static void price() {
        Script.run("8 price", """
            price -1 1 ! IAE
            price 100 1 ! IAE
            price 0 0 ! IAE
            price 0 10000 ! IAE
            count 3 = 0
            price 50 200 = 100
            price 99 9999 = 200
            price 10 1 = 100
            price 10 50 = 1
            price 49 60 = 50
            price 9 70 = 100
            count 7 = 5
            undo = 5
            price 9 70 = 100
            price 0 30 = 100
            price 5 31 = 30
            count 7 = 7
            """);
    }

    private static void priceLimits() {
        Script.run("8 twelve prices", """
            price 90 1 = 100
            price 80 2 = 100
            price 70 3 = 100
            price 60 4 = 100
            price 50 5 = 100
            price 40 6 = 100
            price 35 7 = 100
            price 30 8 = 100
            price 25 9 = 100
            price 20 10 = 100
            price 15 11 = 100
            count 7 = 11
            price 10 12 = 100
            count 7 = 12
            price 11 12 ! ISE
            price 99 12 ! ISE
            price 99 0 ! IAE
            price 15 13 = 11
            price 90 14 = 1
            price 10 15 = 12
            count 7 = 12
            count 3 = 8
            """);
    }

    private static void yearPay() {
        Script.run("30 yearPay", """
            member 0 = 0
            spell 0 0 0 119 50 0 = 0
            wage 0 0 3 100 = 0
            yearPay 0 0 0 0 = 450      # nine months of half of it
            yearPay 0 0 1 1 = 600
            yearPay 0 0 2 2 = 0
            wage 0 0 14 101 = 100
            yearPay 0 0 1 1 = 605
            price 1 130 = 100
            yearPay 0 0 0 0 = 450
            yearPay 0 0 0 1 = 585
            yearPay 0 0 1 0 = 6050/13
            yearPay 0 0 1 1 = 605
            spell 0 0 7 7 63 0 = 1
            yearPay 0 0 0 0 = 450      # no wage yet
            spell 0 0 17 17 63 0 = 2
            yearPay 0 0 0 0 = 2263/5   # 13 hundredths of a day's 20 coins more
            spell 0 0 18 18 100 1 = 3
            yearPay 0 0 0 0 = 2263/5   # rest earns no wage
            yearPay 1 0 0 0 ! IOOBE
            yearPay 0 3 0 0 ! IOOBE
            yearPay 0 0 -1 0 ! IAE
            yearPay 0 0 100 0 ! IAE
            yearPay 0 0 0 -1 ! IAE
            yearPay 0 0 0 100 ! IAE
            yearPay 0 3 0 100 ! IOOBE
            yearPay 0 0 99 0 = 0
            spell 0 0 5940 5999 100 0 = 4
            wage 0 0 0 9999 = 0
            wage 0 0 1188 9999 = 101
            yearPay 0 0 99 99 = 119988
            """);
    }

    private static void form() {
        Script.run("11 form", """
            form 3 0 1 0 ! IOOBE
            form -1 9 9 9 ! IOOBE
            form 0 -1 1 0 ! IAE
            form 0 3 1 0 ! IAE
            form 0 0 0 0 ! IAE
            form 0 0 11 0 ! IAE
            form 0 1 0 0 ! IAE
            form 0 2 1 -1 ! IAE
            form 0 2 1 100000 ! IAE
            count 3 = 0
            form 0 2 1 99999 = 0
            form 0 1 10 0 = 2
            ofHouse 0 3 = 1
            ofHouse 1 3 = 0
            form 0 0 1 0 = 1
            undo = 2
            ofHouse 0 3 = 1
            """);
    }

    private static final String RISING = """
            member 0 = 0
            spell 0 1 0 599 100 0 = 0
            wage 0 1 0 10 = 0
            wage 0 1 12 20 = 10
            wage 0 1 24 50 = 20
            wage 0 1 36 30 = 50
            wage 0 1 48 0 = 30
            wage 0 1 60 40 = 0
            """;

    private static void bestYears() {
        Script.run("31 base, the best years", RISING + """
            base 0 1 0 = 0
            base 0 1 1 = 40         # 120 over three, though there is but one
            base 0 1 2 = 120        # 120, 240
            base 0 1 3 = 320        # 600 more
            base 0 1 4 = 400        # 240, 600, 360
            base 0 1 5 = 400
            base 0 1 6 = 480        # 600, 360, 480
            base 0 1 7 = 520        # 600, 480, 480
            base 0 0 7 = 0
            form 1 0 1 0 = 0
            base 0 1 7 = 600
            form 1 0 10 0 = 0
            base 0 1 6 = 180        # 1800 over ten
            base 0 1 99 = 372       # 3720: 120, 240, 600, 360 and five times 480
            price 2 500 = 100
            form 1 0 1 0 = 0
            base 0 1 3 = 1200       # 240 of the year 1 is worth more than 600 of the year 2
            base 0 1 2 = 1200
            price 3 100 = 500
            base 0 1 4 = 360        # 120, 240, 120 and 360
            base 1 0 0 ! IOOBE
            base 0 3 0 ! IOOBE
            base 0 1 -1 ! IAE
            base 0 1 100 ! IAE
            base 0 3 -1 ! IOOBE
            """);
    }

    private static void allYears() {
        Script.run("31 base, all years", RISING + """
            form 1 1 1 0 = 0
            base 0 1 0 = 0
            base 0 1 1 = 120
            base 0 1 4 = 330        # 1320 over four
            base 0 1 5 = 330        # the year without wage does not count
            base 0 1 6 = 360        # 1800 over five
            base 0 0 50 = 0
            price 1 200 = 100
            base 0 1 2 = 240        # 120 is worth 240 now
            price 2 300 = 200
            base 0 1 3 = 440        # 360, 360 and 600
            price 2 100 = 300
            base 0 1 3 = 280        # 120, 120 and 600: a price between two that are the same
            base 0 1 4 = 300
            """);
        Script.run("31 base, the least of all pays", """
            member 0 = 0
            spell 0 0 0 0 1 0 = 0
            spell 0 0 60 119 100 0 = 1
            wage 0 0 0 1 = 0
            yearPay 0 0 0 0 = 1/500
            form 0 1 1 0 = 0
            base 0 0 1 = 1/500
            base 0 0 2 = 6001/1000
            base 0 0 3 = 6001/1000
            form 0 0 2 0 = 1
            base 0 0 3 = 6001/1000
            """);
    }

    private static void lastYears() {
        Script.run("31 base, the last years", RISING + """
            form 1 2 3 99999 = 0
            base 0 1 0 = 0
            base 0 1 1 = 40
            base 0 1 2 = 120
            base 0 1 3 = 320
            base 0 1 4 = 400
            base 0 1 5 = 320        # 600, 360, 0
            base 0 1 6 = 280        # 360, 0, 480
            base 0 1 99 = 0
            form 1 2 2 360 = 2
            base 0 1 4 = 360        # 600 is bounded, 360 is at the bound
            base 0 1 3 = 300        # 240 and 360
            form 1 2 2 359 = 2
            base 0 1 4 = 359
            form 1 2 3 0 = 2
            base 0 1 4 = 0
            form 1 2 1 400 = 2
            price 1 200 = 100
            base 0 1 1 = 240
            price 4 400 = 200
            base 0 1 4 = 400        # 360 is raised to 720, then bounded
            form 1 2 1 720 = 2
            base 0 1 4 = 720
            """);
    }

    private static void manyPrices() {
        Script.run("31 base, over many prices", """
            member 0 = 0
            spell 0 0 0 5999 100 0 = 0
            wage 0 0 0 1 = 0
            form 0 1 1 0 = 0
            price 1 9973 = 100
            price 2 9967 = 9973
            price 3 9949 = 9967
            price 4 9941 = 9949
            price 5 9931 = 9941
            price 6 9929 = 9931
            price 7 9923 = 9929
            price 8 9907 = 9923
            price 9 9901 = 9907
            price 10 9887 = 9901
            price 11 9883 = 9887
            price 12 9871 = 9883
            base 0 0 1 = 29919/25
            base 0 0 2 = 301192773/498650
            base 0 0 13 = 3060434937160357177514051709725481952392553683693/29963958017556809992167318926799584067531837325
            base 0 0 99 = 1813037406594955672297419111766370157405027025831/76062354967644209980117040352645098017580817825
            """);
    }
}
