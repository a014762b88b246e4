/** The sentences of the promises 27 to 57, at their edges; the answers were reckoned by hand. */
final class EdgesOfAnswers {
    private static final String NO_MEMBER_OR_HOUSE = "Throws `IndexOutOfBoundsException` if there is no such MEMBER or HOUSE";
    private static final String NO_MONTH = "Throws `IllegalArgumentException` if month is no MONTH";
    private static final String NO_DAY = "Throws `IllegalArgumentException` if day is no DAY";

    private EdgesOfAnswers() {
    }

    static void run() {
        for (String call : new String[] {"27 has D", "28 time D D", "29 worked D", "30 yearPay D D", "31 base D", "32 earned D",
                "33 isOwn D", "34 factor D", "35 pension D", "36 face D", "37 kept D D", "39 widow", "42 value D", "44 lump D D",
                "45 best D D D", "46 wouldEarn D D 1"}) {
            noMemberOrHouse(call);
        }
        moments();
        timeAndWages();
        rights();
        faces();
        spouses();
        levels();
        classes();
        transferredAndLump();
        best();
        wouldEarn();
        dueAndPaid();
        ofStream();
        whatThereIs();
        ofHouse();
        then();
        typedAndCount();
    }

    /** For all that are asked of a member and a house, and of moments (D: the moment 5) behind these. */
    private static void noMemberOrHouse(String told) {
        String[] words = told.split(" ", 3);
        String ask = words[1] + " %d %d" + (words.length > 2 ? " " + words[2].replace("D", "5") : "");
        StringBuilder lines = new StringBuilder();
        lines.append(String.format(ask, 0, 0)).append(" ! IOOBE\nmember 0 = 0\nmember 0 = 1\n");
        for (int[] wrong : new int[][] {{2, 0}, {-1, 0}, {0, 3}, {0, -1}, {4, 0}, {Integer.MIN_VALUE, 0}, {Integer.MAX_VALUE, 0},
                {0, Integer.MIN_VALUE}, {0, Integer.MAX_VALUE}, {2, 3}}) {
            lines.append(String.format(ask, wrong[0], wrong[1])).append(" ! IOOBE\n");
        }
        lines.append(String.format(ask, 0, 0)).append(" = _\n").append(String.format(ask, 1, 2)).append(" = _\nundo = 1\n");
        lines.append(String.format(ask, 1, 2)).append(" ! IOOBE\n");
        Edges.promise(Integer.parseInt(words[0]), NO_MEMBER_OR_HOUSE, lines.toString());
    }

    /** For all that are asked of one moment: there it is neither too small nor too large. */
    private static void moment(int number, String sentence, String ask, int last, String least, String most) {
        Edges.promise(number, sentence, "member 0 = 0\n"
            + ask + " -1 ! IAE\n" + ask + " " + (last + 1) + " ! IAE\n" + ask + " -2147483648 ! IAE\n" + ask + " 2147483647 ! IAE\n"
            + ask + " 0 = " + least + "\n" + ask + " " + last + " = " + most + "\n");
    }

    private static void moments() {
        moment(27, NO_DAY, "has 0 0", 5999, "0", "0");
        moment(29, NO_MONTH, "worked 0 0", 1199, "0", "0");
        moment(31, "Throws `IllegalArgumentException` if year is no YEAR", "base 0 0", 99, "0", "0");
        moment(32, NO_DAY, "earned 0 0", 5999, "0", "0");
        moment(33, NO_DAY, "isOwn 0 0", 5999, "false", "false");
        moment(34, NO_MONTH, "factor 0 0", 1199, "0", "1300");
        moment(35, NO_MONTH, "pension 0 0", 1199, "0", "0");
        moment(36, NO_MONTH, "face 0 0", 1199, "0.00", "0.00");
        moment(41, NO_MONTH, "ofClass 0 0", 1199, "100", "100");
        moment(42, NO_MONTH, "value 0 0", 1199, "0", "0");
        moment(43, NO_MONTH, "transferred 0 0 0", 1199, "0", "0");
    }

    private static void timeAndWages() {
        Edges.promise(28, "Throws `IllegalArgumentException` if from or to is no DAY, or to is ahead of from", """
            member 0 = 0
            spell 0 0 0 5999 1 0 = 0
            time 0 0 -1 5 ! IAE
            time 0 0 6000 6000 ! IAE
            time 0 0 0 6000 ! IAE
            time 0 0 -1 -1 ! IAE
            time 0 0 6 5 ! IAE
            time 0 0 5999 0 ! IAE
            time 0 0 2147483647 -2147483648 ! IAE
            time 0 0 -2147483648 2147483647 ! IAE
            time 0 0 0 0 = 1
            time 0 0 5999 5999 = 1
            time 0 0 0 5999 = 6000
            """);
        Edges.promise(28, "Returns TIME of the DAYS from the first one to the last one, both with them.", """
            member 0 = 0
            spell 0 0 10 12 7 0 = 0
            time 0 0 9 9 = 0
            time 0 0 10 10 = 7
            time 0 0 9 10 = 7
            time 0 0 10 12 = 21
            time 0 0 12 13 = 7
            time 0 0 13 13 = 0
            time 0 0 11 11 = 7
            """);
        Edges.promise(30, "Throws `IllegalArgumentException` if year or other is no YEAR", """
            member 0 = 0
            yearPay 0 0 -1 0 ! IAE
            yearPay 0 0 100 0 ! IAE
            yearPay 0 0 0 -1 ! IAE
            yearPay 0 0 0 100 ! IAE
            yearPay 0 0 -2147483648 2147483647 ! IAE
            yearPay 0 0 0 99 = 0
            yearPay 0 0 99 0 = 0
            """);
        Edges.promise(29, "Returns what is WORKED on its DAYS, together.", """
            member 0 = 0
            spell 0 0 4 10 100 0 = 0
            worked 0 0 0 = 100
            worked 0 0 1 = 500
            worked 0 0 2 = 100
            worked 0 0 3 = 0
            """);
    }

    private static void rights() {
        Edges.promise(32, "Returns what is EARNED ahead of it.", """
            member 0 = 0
            spell 0 0 7 7 100 0 = 0
            earned 0 0 7 = 0
            earned 0 0 8 = 1/3000
            earned 0 0 5999 = 1/3000
            """);
        Edges.promise(33, "Returns whether it is OWN ahead of it.", """
            member 0 = 0
            terms 0 1 0 0 0 = 2
            spell 0 0 0 59 100 0 = 0
            isOwn 0 0 59 = false
            isOwn 0 0 60 = true
            terms 0 0 0 0 0 = 1
            isOwn 0 0 0 = true
            """);
    }

    private static void faces() {
        Edges.promise(36, "Returns PENSION, by going in that MONTH, with two digits behind the point, what is left cut off (\"12.50\","
            + " \"0.00\").", """
            member 0 = 0
            terms 0 0 0 0 0 = 2
            form 0 1 1 0 = 0
            spell 0 0 0 59 100 0 = 0
            wage 0 0 0 500 = 0
            face 0 0 0 = 0.00
            face 0 1 12 = 0.00
            face 0 0 12 = 10.00           # a fiftieth of 6000, a twelfth of it
            wage 0 0 0 625 = 500
            face 0 0 12 = 12.50
            wage 0 0 0 1 = 625
            face 0 0 12 = 0.02
            wage 0 0 11 0 = 1
            face 0 0 12 = 0.01            # 0.01833..
            wage 0 0 6 0 = 1
            face 0 0 12 = 0.01            # just
            wage 0 0 5 0 = 1
            pension 0 0 12 = 1/120
            face 0 0 12 = 0.00            # 0.00833..
            wage 0 0 0 9999 = 1
            wage 0 0 5 9999 = 0
            wage 0 0 6 9999 = 0
            wage 0 0 11 9999 = 0
            face 0 0 12 = 199.98
            price 0 1 = 100
            price 1 9999 = 1
            face 0 0 12 = 1999600.02      # 119988 times 9999, a fiftieth, a twelfth
            """);
    }

    /** Two hundred days of a hundred, at 600 a month, by LAST of 1: 36 in the month 36. */
    private static final String COUPLE = """
            member 0 = 0
            member 0 = 1
            member 0 = 2
            terms 0 0 0 0 0 = 2
            spell 0 0 0 199 100 0 = 0
            wage 0 0 0 600 = 0
            form 0 2 1 99999 = 0
            """;

    private static void spouses() {
        Edges.promise(37, "Throws `IllegalArgumentException` if month or at is no MONTH", COUPLE + """
            kept 0 0 -1 0 ! IAE
            kept 0 0 1200 0 ! IAE
            kept 0 0 0 -1 ! IAE
            kept 0 0 0 1200 ! IAE
            kept 0 0 2147483647 -2147483648 ! IAE
            kept 0 0 36 0 = 36
            kept 0 0 36 1199 = 36
            kept 0 0 0 36 = 0
            kept 0 0 1199 0 = 0
            """);
        Edges.promise(38, "Throws `IndexOutOfBoundsException` if there is no such MEMBER (both) or HOUSE", COUPLE + """
            given 3 0 0 0 0 ! IOOBE
            given 0 3 0 0 0 ! IOOBE
            given -1 0 0 0 0 ! IOOBE
            given 0 -1 0 0 0 ! IOOBE
            given 0 1 3 0 0 ! IOOBE
            given 0 1 -1 0 0 ! IOOBE
            given 3 3 0 0 0 ! IOOBE
            given 0 2 2 0 0 = 0
            """);
        Edges.promise(38, "Throws `IllegalArgumentException` if both are the same, or month or at is no MONTH", COUPLE + """
            given 0 0 0 0 0 ! IAE
            given 2 2 0 0 0 ! IAE
            given 0 1 0 -1 0 ! IAE
            given 0 1 0 1200 0 ! IAE
            given 0 1 0 0 -1 ! IAE
            given 0 1 0 0 1200 ! IAE
            given 0 1 0 -2147483648 2147483647 ! IAE
            given 0 1 0 0 1199 = 0
            given 1 0 0 1199 0 = 0
            """);
        Edges.promise(38, "Returns what is GIVEN to the other one in that MONTH.", COUPLE + """
            marry 0 1 90 = 0
            divide 0 5999 100 = 5909
            given 0 1 0 36 0 = 18
            given 0 1 0 36 1199 = 18
            given 0 1 0 18 18 = 0
            given 0 1 0 19 19 = 1             # of 95 days five, of 19
            death 1 0 = -1
            given 0 1 0 36 0 = 18            # died on the first day of the month 0
            given 0 1 0 36 1 = 0
            given 0 2 0 36 0 = 0
            """);
        Edges.promise(39, "Returns WIDOW.", COUPLE + """
            widow 0 0 = 0
            marry 0 1 5999 = 0
            death 1 5999 = -1
            widow 0 0 = 0                    # of one who had nothing
            spell 1 0 5880 5998 100 0 = 0
            wage 1 0 0 1 = 0
            terms 0 2 0 0 0 = 0
            widow 0 0 = 0                    # 115 days are ahead of the month 1199, and are not two years
            terms 0 1 0 0 0 = 2
            widow 0 0 = 23/1000              # by a base of 12
            """);
    }

    private static void levels() {
        Edges.promise(40, "Throws `IndexOutOfBoundsException` if there is no such HOUSE", """
            level 3 0 0 ! IOOBE
            level -1 0 0 ! IOOBE
            level 2147483647 0 0 ! IOOBE
            level 2 0 0 = 1
            """);
        Edges.promise(40, "Throws `IllegalArgumentException` if first is no YEAR, or year not from first to first + 20, or no YEAR", """
            level 0 -1 0 ! IAE
            level 0 -1 -1 ! IAE
            level 0 100 100 ! IAE
            level 0 5 4 ! IAE
            level 0 5 26 ! IAE
            level 0 90 100 ! IAE
            level 0 80 100 ! IAE
            level 0 2147483647 2147483647 ! IAE
            level 0 2147483640 -2147483647 ! IAE
            level 0 5 5 = 1
            level 0 5 25 = 1
            level 0 0 0 = 1
            level 0 79 99 = 1
            level 0 80 99 = 1
            level 0 99 99 = 1
            """);
        Edges.promise(40, "Returns LEVEL from the first one to the other one.", """
            price 1 1 = 100
            raise 0 -10 0 = 5
            level 0 0 0 = 1
            level 0 0 1 = 9/10
            level 0 0 2 = 81/100
            level 0 1 2 = 1
            level 0 0 20 = 12157665459056928801/100000000000000000000
            price 1 9999 = 1
            raise 0 0 30 = 0
            level 0 0 1 = 13/10
            level 0 0 18 = 9999/100
            level 0 0 17 = 8650415919381337933/100000000000000000
            level 0 1 21 = 1
            """);
    }

    private static void classes() {
        Edges.promise(41, "Throws `IndexOutOfBoundsException` if there is no such HOUSE or CLASS", """
            ofClass 3 0 0 ! IOOBE
            ofClass -1 0 0 ! IOOBE
            ofClass 0 3 0 ! IOOBE
            ofClass 0 -1 0 ! IOOBE
            ofClass 0 2147483647 0 ! IOOBE
            ofClass 0 -2147483648 0 ! IOOBE
            ofClass 2 2 0 = 100
            """);
        Edges.promise(41, "Returns what it has of POINTS then.", """
            lessen 0 7 101 = 199
            ofClass 0 2 6 = 100
            ofClass 0 2 7 = 0
            ofClass 0 1 7 = 99
            ofClass 0 0 7 = 100
            ofClass 1 2 7 = 100
            lessen 0 8 -300 = 300
            ofClass 0 2 8 = 100
            ofClass 0 2 7 = 0
            """);
    }

    /** Twenty years of a hundred from the day 600 on, at 600 a month, by ALL: 240 from the month 360 on. */
    private static final String TWENTY = """
            member 600 = 0
            terms 0 2 0 0 0 = 2
            spell 0 0 600 1799 100 0 = 0
            wage 0 0 0 600 = 0
            form 0 1 1 0 = 0
            """;

    private static void transferredAndLump() {
        Edges.promise(43, "Throws `IndexOutOfBoundsException` if there is no such MEMBER or HOUSE (both)", TWENTY + """
            transferred 1 0 0 0 ! IOOBE
            transferred -1 0 0 0 ! IOOBE
            transferred 0 3 0 0 ! IOOBE
            transferred 0 -1 0 0 ! IOOBE
            transferred 0 0 3 0 ! IOOBE
            transferred 0 0 -1 0 ! IOOBE
            transferred 0 0 3 -1 ! IOOBE
            transferred 0 2 2 0 = 0
            """);
        Edges.promise(43, "- `other`: a HOUSE (or the same)", TWENTY + """
            annuity 0 20 7 = 20
            annuity 0 21 11 = 7
            transferred 0 0 0 359 = 239
            transferred 0 0 0 360 = 240
            transferred 0 0 0 372 = 240
            transferred 0 0 1 372 = 132
            """);
        Edges.promise(44, "Throws `IllegalArgumentException` if month is no MONTH, or part not 0 to 100", TWENTY + """
            lump 0 0 -1 50 ! IAE
            lump 0 0 1200 50 ! IAE
            lump 0 0 0 -1 ! IAE
            lump 0 0 0 101 ! IAE
            lump 0 0 2147483647 -2147483648 ! IAE
            lump 0 0 0 0 = 0 0
            lump 0 0 1199 100 = 57600 0
            """);
        Edges.promise(44, "Returns so many hundredths of VALUE, then \" \", then the PENSION without as many hundredths.", TWENTY + """
            lump 0 0 360 0 = 0 240
            lump 0 0 360 1 = 576 1188/5
            lump 0 0 360 99 = 57024 12/5
            lump 0 0 360 100 = 57600 0
            lump 0 1 360 50 = 0 0
            wage 0 0 0 9999 = 600
            price 0 7 = 100
            price 20 9967 = 7
            price 30 9973 = 9967
            lump 0 0 360 0 = 0 994607549298/348845
            lump 0 0 360 50 = 23870581183152/69769 497303774649/348845
            lump 0 0 360 100 = 47741162366304/69769 0
            wage 0 0 0 600 = 9999
            lump 0 0 144 50 = 2880 12
            lump 0 0 143 50 = 0 0            # not its own yet
            """);
    }

    private static void best() {
        Edges.promise(45, "Throws `IllegalArgumentException` if from is no MONTH, to not from to from + 36 or no MONTH, or until not from"
            + " to on or no MONTH", TWENTY + """
            best 0 0 -1 0 5 ! IAE
            best 0 0 1200 1200 1200 ! IAE
            best 0 0 10 9 20 ! IAE
            best 0 0 10 47 100 ! IAE
            best 0 0 1190 1200 1200 ! IAE
            best 0 0 1190 1195 1200 ! IAE
            best 0 0 10 20 19 ! IAE
            best 0 0 10 20 15 ! IAE
            best 0 0 10 20 -1 ! IAE
            best 0 0 2147483647 2147483647 2147483647 ! IAE
            best 0 0 2147483640 -2147483647 5 ! IAE
            best 0 0 -1 -1 -1 ! IAE
            best 0 0 10 46 46 = 10
            best 0 0 0 36 1199 = 0
            best 0 0 0 0 0 = 0
            best 0 0 1163 1199 1199 = 1163
            best 0 0 1199 1199 1199 = 1199
            """);
        Edges.promise(45, "Returns the MONTH from the first one to the second one by going in which the PENSION, times how many MONTHS are"
            + " left till the third one, is greatest.", TWENTY + """
            best 0 0 143 145 145 = 144       # not its own yet, then 24 once, then nothing is left
            best 0 0 100 136 1000 = 100      # all are 0
            best 0 0 324 360 1199 = 360      # the last one
            best 0 0 361 397 1199 = 361      # the first one
            best 0 0 350 370 370 = 350
            best 0 0 360 360 360 = 360
            best 0 0 359 360 360 = 359
            terms 0 2 240 0 10 = 2
            best 0 0 370 390 501 = 380       # 1200 * 121 is 1210 * 120
            """);
    }

    private static void wouldEarn() {
        Edges.promise(46, "Throws `IllegalArgumentException` if from or to is no DAY, to is ahead of from, or part not 1 to 100", """
            member 10 = 0
            wouldEarn 0 0 -1 20 1 ! IAE
            wouldEarn 0 0 20 6000 1 ! IAE
            wouldEarn 0 0 6000 6000 1 ! IAE
            wouldEarn 0 0 20 19 1 ! IAE
            wouldEarn 0 0 20 20 0 ! IAE
            wouldEarn 0 0 20 20 101 ! IAE
            wouldEarn 0 0 20 20 -2147483648 ! IAE
            wouldEarn 0 0 5 20 0 ! IAE
            wouldEarn 0 0 20 20 1 = 1/300000
            wouldEarn 0 0 5999 5999 100 = 1/3000
            """);
        Edges.promise(46, "Throws `IllegalStateException` if from is ahead of its BIRTH", """
            member 10 = 0
            wouldEarn 0 0 9 20 1 ! ISE
            wouldEarn 0 0 0 5 1 ! ISE
            wouldEarn 0 0 10 10 100 = 1/3000
            member 5999 = 1
            wouldEarn 1 2 5998 5999 1 ! ISE
            wouldEarn 1 2 5999 5999 50 = 1/6000
            """);
        Edges.promise(46, "Returns what would be EARNED there ahead of the DAY behind TO, with such a SPELL of the KIND WORK more (however"
            + " many there are).", """
            member 0 = 0
            x10: spell 0 0 10 19 50 1 = _
            spell 0 0 30 30 60 0 ! ISE
            wouldEarn 0 0 30 30 60 = 7/3750         # 500 and 60, by 20
            wouldEarn 0 0 10 19 60 = 1/500
            wouldEarn 0 0 10 19 50 = 1/600          # no more than there is
            wouldEarn 0 0 0 9 50 = 1/600            # what comes behind does not count
            wouldEarn 0 1 10 19 100 = 1/600         # fifty are left
            wouldEarn 0 0 0 5999 100 = 13/10        # thirty years by 20, seventy by 10
            death 0 14 = -1
            wouldEarn 0 0 10 19 60 = 1/1000
            ofMember 0 2 = 10
            """);
    }

    /** Ten years of a hundred, at 500 a month, by ALL: the pension is 100 from the month 120 on. */
    private static final String RETIRED = """
            member 0 = 0
            terms 0 2 0 0 0 = 2
            spell 0 0 0 599 100 0 = 0
            wage 0 0 0 500 = 0
            form 0 1 1 0 = 0
            """;

    private static void dueAndPaid() {
        Edges.promise(47, "Throws `IndexOutOfBoundsException` if there is no such STREAM", RETIRED + """
            due 0 120 ! IOOBE
            go 0 0 120 0 = 0
            due 1 120 ! IOOBE
            due -1 120 ! IOOBE
            due 6 120 ! IOOBE
            due 0 120 = 100
            undo = 5
            due 0 120 ! IOOBE
            """);
        Edges.promise(47, "Throws `IllegalArgumentException` if month is not that of going to 120 behind it, or no MONTH", RETIRED + """
            go 0 0 120 0 = 0
            due 0 119 ! IAE
            due 0 241 ! IAE
            due 0 -1 ! IAE
            due 0 -2147483648 ! IAE
            due 0 2147483647 ! IAE
            due 0 120 = 100
            due 0 240 = 100
            terms 1 0 0 0 0 = 2
            go 0 1 1100 0 = 1
            due 1 1199 = 0
            due 1 1200 ! IAE
            due 1 1220 ! IAE
            """);
        Edges.promise(48, "Throws `IndexOutOfBoundsException` if there is no such STREAM, or there was none such", RETIRED + """
            paid 0 0 ! IOOBE
            go 0 0 120 0 = 0
            paid 0 0 ! IOOBE
            payOut 0 = 100
            paid 0 0 = 100
            paid 0 1 ! IOOBE
            paid 0 -1 ! IOOBE
            paid 1 0 ! IOOBE
            paid -1 0 ! IOOBE
            x23: payOut 0 = 100
            paid 0 23 = 100
            paid 0 24 ! IOOBE
            paid 0 2147483647 ! IOOBE
            undo = 7
            paid 0 23 ! IOOBE
            """);
    }

    private static void ofStream() {
        Edges.promise(49, "Throws `IndexOutOfBoundsException` if there is no such STREAM", RETIRED + """
            ofStream 0 0 ! IOOBE
            go 0 0 120 0 = 0
            ofStream 1 0 ! IOOBE
            ofStream -1 0 ! IOOBE
            ofStream 0 0 = 0
            """);
        Edges.promise(49, "Throws `IllegalArgumentException` if what is not 0 to 7", RETIRED + """
            go 0 0 120 2 = 0
            ofStream 0 -1 ! IAE
            ofStream 0 8 ! IAE
            ofStream 0 -2147483648 ! IAE
            ofStream 0 0 = 0
            ofStream 0 1 = 0
            ofStream 0 2 = 120
            ofStream 0 3 = 2
            ofStream 0 4 = 0
            ofStream 0 5 = 0
            ofStream 0 6 = 0
            ofStream 0 7 = 0
            """);
    }

    private static void whatThereIs() {
        Edges.promise(50, "Throws `IndexOutOfBoundsException` if there is no such MEMBER or SPELL", """
            line 0 0 ! IOOBE
            member 0 = 0
            line 0 0 ! IOOBE
            spell 0 0 1 2 3 0 = 0
            line 0 0 = 1-2:3w
            line 0 1 ! IOOBE
            line 0 -1 ! IOOBE
            line 1 0 ! IOOBE
            line -1 0 ! IOOBE
            x9: spell 0 0 1 2 3 0 = _
            line 0 9 = 1-2:3w
            line 0 10 ! IOOBE
            line 0 2147483647 ! IOOBE
            """);
        Edges.promise(51, "Throws `IndexOutOfBoundsException` if there is no such MEMBER", """
            ofMember 0 0 ! IOOBE
            member 9 = 0
            ofMember 1 0 ! IOOBE
            ofMember -1 0 ! IOOBE
            ofMember 0 0 = 9
            """);
        Edges.promise(51, "Throws `IllegalArgumentException` if what is not 0 to 4", """
            member 9 = 0
            ofMember 0 -1 ! IAE
            ofMember 0 5 ! IAE
            ofMember 0 2147483647 ! IAE
            ofMember 0 0 = 9
            ofMember 0 1 = -1
            ofMember 0 2 = 0
            ofMember 0 3 = -1
            ofMember 0 4 = 0
            """);
        Edges.promise(52, "Throws `IndexOutOfBoundsException` if there is no such MARRIAGE", """
            ofMarriage 0 0 ! IOOBE
            member 0 = 0
            member 0 = 1
            ofMarriage 0 0 ! IOOBE
            marry 1 0 0 = 0
            ofMarriage 1 0 ! IOOBE
            ofMarriage -1 0 ! IOOBE
            ofMarriage 0 0 = 1
            """);
        Edges.promise(52, "Throws `IllegalArgumentException` if what is not 0 to 4", """
            member 0 = 0
            member 0 = 1
            marry 1 0 0 = 0
            ofMarriage 0 -1 ! IAE
            ofMarriage 0 5 ! IAE
            ofMarriage 0 0 = 1
            ofMarriage 0 1 = 0
            ofMarriage 0 2 = 0
            ofMarriage 0 3 = -1
            ofMarriage 0 4 = -1
            divide 0 1 0 = 1
            ofMarriage 0 3 = 1
            ofMarriage 0 4 = 0
            """);
    }

    private static void ofHouse() {
        Edges.promise(53, "Throws `IndexOutOfBoundsException` if there is no such HOUSE", """
            ofHouse 3 0 ! IOOBE
            ofHouse -1 0 ! IOOBE
            ofHouse 2 0 = 1
            """);
        Edges.promise(53, "Throws `IllegalArgumentException` if what is not 0 to 10", """
            ofHouse 0 -1 ! IAE
            ofHouse 0 11 ! IAE
            ofHouse 0 -2147483648 ! IAE
            ofHouse 0 0 = 1
            ofHouse 0 1 = 2
            ofHouse 0 2 = 720
            ofHouse 0 3 = 0
            ofHouse 0 4 = 60
            ofHouse 0 5 = 0
            ofHouse 0 6 = 5
            ofHouse 0 7 = 0
            ofHouse 0 8 = 0
            ofHouse 0 9 = 0
            ofHouse 0 10 = 1
            """);
    }

    private static void then() {
        Edges.promise(54, "Throws `IllegalArgumentException` if back is not 0 to 8, or day is no DAY", """
            member 0 = 0
            x9: interest 1 = _
            then -1 0 0 0 ! IAE
            then 9 0 0 0 ! IAE
            then 0 0 0 -1 ! IAE
            then 0 0 0 6000 ! IAE
            then -2147483648 0 0 2147483647 ! IAE
            then 0 0 0 0 = 0
            then 8 0 0 5999 = 0
            """);
        Edges.promise(54, "Throws `IllegalStateException` if not so many can be UNDONE", """
            then 1 0 0 0 ! ISE
            member 0 = 0
            then 0 0 0 0 = 0
            then 2 0 0 0 ! ISE
            x7: interest 1 = _
            then 7 0 0 0 = 0
            then 8 0 0 0 ! IOOBE             # there was none then
            interest 1 = 1
            then 8 0 0 0 = 0
            undo = 7
            then 8 0 0 0 ! ISE
            then 7 0 0 0 = 0
            """);
        Edges.promise(54, "Throws `IndexOutOfBoundsException` if there was no such MEMBER, or there is no such HOUSE", """
            then 0 0 0 0 ! IOOBE
            member 0 = 0
            member 0 = 1
            then 0 1 0 0 = 0
            then 1 1 0 0 ! IOOBE             # there is one now, but there was none
            then 1 0 0 0 = 0
            then 2 0 0 0 ! IOOBE
            then 0 2 0 0 ! IOOBE
            then 0 -1 0 0 ! IOOBE
            then 0 0 3 0 ! IOOBE
            then 0 0 -1 0 ! IOOBE
            then 0 0 2 0 = 0
            """);
        Edges.promise(54, "Returns what was EARNED ahead of that DAY, as it was told so many CHANGES ago.", """
            member 0 = 0
            spell 0 0 0 0 100 0 = 0
            x7: cut 0 0 0 ! IAE
            spell 0 0 1 1 100 0 = 1
            spell 0 0 2 2 100 0 = 2
            spell 0 0 3 3 100 0 = 3
            rule 0 0 40 30 10 = 1
            then 0 0 0 5999 = 1/375
            then 1 0 0 5999 = 1/750
            then 2 0 0 5999 = 1/1000
            then 3 0 0 5999 = 1/1500
            then 4 0 0 5999 = 1/3000
            then 5 0 0 5999 = 0
            then 6 0 0 5999 ! IOOBE
            then 7 0 0 5999 ! ISE
            undo = 5
            then 0 0 0 5999 = 1/750
            then 4 0 0 5999 = 0
            death 0 1 = -1
            then 0 0 0 5999 = 1/1500
            then 1 0 0 5999 = 1/750
            """);
    }

    private static void typedAndCount() {
        Edges.promise(55, "Returns what is TYPED.", """
            typed =
            type 15 16 -1 -1 -1 -1 = 0
            typed =
            type 0 1 2 3 4 5 = 6
            type 6 7 8 9 10 11 = 12
            type 12 13 -1 -1 -1 -1 = 14
            typed = 0123456789-:wr
            type 16 14 -1 -1 -1 -1 = 1
            typed = g
            """);
        Edges.promise(56, "Returns FAULT of what is TYPED.", """
            fault = 0
            type 1 -1 -1 -1 -1 -1 = 1
            fault = 1
            type 12 -1 -1 -1 -1 -1 = 2
            fault = 1
            type 15 10 2 11 3 14 = 6
            fault = -1
            type 16 9 9 9 9 10 = 5
            type 9 9 9 9 11 9 = 11
            type 9 9 -1 -1 -1 -1 = 13
            fault = 13
            type 13 -1 -1 -1 -1 -1 = 14
            fault = -1                       # as long as can be
            """);
        Edges.promise(57, "Throws `IllegalArgumentException` if what is not 0 to 8", """
            count -1 ! IAE
            count 9 ! IAE
            count -2147483648 ! IAE
            count 2147483647 ! IAE
            count 0 = 0
            count 8 = 0
            """);
    }
}
