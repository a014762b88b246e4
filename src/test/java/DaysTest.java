/** Promises 1 to 6 (a new object, member, spell, unspell, cut, death) and 27 to 29 (has, time, worked). */
public final class DaysTest {
    public static void main(String[] none) {
        newObject();
        member();
        spell();
        spellLimits();
        unspell();
        cut();
        death();
        partsOfDays();
        housesInOrder();
        worked();
        time();
        Script.end();
    }

    private static void newObject() {
        Script.run("1 a new object", """
            count 0 = 0
            count 1 = 0
            count 2 = 0
            count 3 = 0
            count 4 = 0
            count 5 = 0
            count 6 = 0
            count 7 = 0
            count 8 = 0
            typed =
            fault = 0
            isSound = true
            has 0 0 0 ! IOOBE
            ofMember 0 0 ! IOOBE
            ofMarriage 0 0 ! IOOBE
            ofStream 0 0 ! IOOBE
            undo ! ISE
            knock = 1
            ofHouse 0 0 = 1
            ofHouse 1 1 = 2
            ofHouse 2 2 = 720
            ofHouse 0 3 = 0
            ofHouse 1 4 = 60
            ofHouse 2 5 = 0
            ofHouse 0 6 = 5
            ofHouse 1 7 = 0
            ofHouse 2 8 = 0
            ofHouse 0 9 = 0
            ofHouse 1 10 = 2
            level 2 0 20 = 1
            ofClass 0 2 1199 = 100
            """);
    }

    private static void member() {
        Script.run("2 member", """
            member -1 ! IAE
            member 6000 ! IAE
            member -2147483648 ! IAE
            count 0 = 0
            count 3 = 0
            member 0 = 0
            member 5999 = 1
            member 17 = 2
            member 0 = 3
            member 0 ! ISE
            member 6000 ! IAE    # named first
            count 0 = 4
            count 3 = 4
            ofMember 1 0 = 5999
            ofMember 2 0 = 17
            ofMember 2 1 = -1
            ofMember 2 2 = 0
            ofMember 2 3 = -1
            ofMember 2 4 = 0
            undo = 3
            ofMember 3 0 ! IOOBE
            member 44 = 3
            ofMember 3 0 = 44
            """);
    }

    private static void spell() {
        Script.run("3 spell", """
            spell 0 0 0 0 1 0 ! IOOBE
            member 30 = 0
            spell 1 0 30 40 1 0 ! IOOBE
            spell -1 0 30 40 1 0 ! IOOBE
            spell 0 3 30 40 1 0 ! IOOBE
            spell 0 -1 30 40 1 0 ! IOOBE
            spell 0 3 -1 40 0 9 ! IOOBE    # named first
            spell 0 0 -1 40 1 0 ! IAE
            spell 0 0 30 6000 1 0 ! IAE
            spell 0 0 6000 6000 1 0 ! IAE
            spell 0 0 40 39 1 0 ! IAE
            spell 0 0 40 40 0 0 ! IAE
            spell 0 0 40 40 101 0 ! IAE
            spell 0 0 40 40 1 -1 ! IAE
            spell 0 0 40 40 1 3 ! IAE
            spell 0 0 29 40 0 0 ! IAE    # named ahead of the birth
            spell 0 0 29 40 1 0 ! ISE
            count 3 = 1
            ofMember 0 2 = 0
            spell 0 0 30 30 1 0 = 0
            spell 0 2 31 5999 100 2 = 1
            spell 0 1 5999 5999 50 1 = 2
            line 0 0 = 30-30:1w
            line 0 1 = 31-5999:100g
            line 0 2 = 5999-5999:50r
            has 0 0 29 = 0
            has 0 0 30 = 1
            has 0 0 31 = 0
            has 0 1 5998 = 0
            has 0 1 5999 = 50
            has 0 2 5999 = 0
            count 3 = 4
            """);
    }

    private static void spellLimits() {
        Script.run("3 ten spells", """
            member 5 = 0
            x10: spell 0 1 10 20 30 0 = _
            ofMember 0 2 = 10
            spell 0 1 10 20 30 0 ! ISE
            spell 0 1 20 10 30 0 ! IAE
            cut 0 3 15 ! ISE
            cut 0 3 10 ! IAE
            cut 0 10 15 ! IOOBE
            wouldEarn 0 1 20 21 40 = 19/15000    # an eleventh one, only asked for: 30 on ten days, 40 on two
            unspell 0 9 = 9
            cut 0 3 15 = 9
            line 0 3 = 10-14:30w
            line 0 9 = 15-20:30w
            time 0 1 0 5999 = 330
            """);
    }

    private static void unspell() {
        Script.run("4 unspell", """
            unspell 0 0 ! IOOBE
            member 0 = 0
            unspell 0 0 ! IOOBE
            spell 0 0 0 9 10 0 = 0
            spell 0 1 10 19 20 1 = 1
            spell 0 2 20 29 30 2 = 2
            spell 0 0 30 39 40 0 = 3
            unspell 0 4 ! IOOBE
            unspell 0 -1 ! IOOBE
            unspell 1 0 ! IOOBE
            count 3 = 5
            unspell 0 1 = 3
            line 0 0 = 0-9:10w
            line 0 1 = 20-29:30g
            line 0 2 = 30-39:40w
            line 0 3 ! IOOBE
            has 0 1 15 = 0
            unspell 0 2 = 2
            unspell 0 0 = 1
            line 0 0 = 20-29:30g
            unspell 0 0 = 0
            unspell 0 0 ! IOOBE
            time 0 0 0 5999 = 0
            undo = 7
            undo = 6
            undo = 5
            undo = 4
            line 0 1 = 10-19:20r
            line 0 3 = 30-39:40w
            has 0 1 15 = 20
            """);
    }

    private static void cut() {
        Script.run("5 cut", """
            member 0 = 0
            cut 0 0 5 ! IOOBE
            spell 0 2 10 20 70 1 = 0
            cut 1 0 15 ! IOOBE
            cut 0 -1 15 ! IOOBE
            cut 0 0 10 ! IAE
            cut 0 0 9 ! IAE
            cut 0 0 21 ! IAE
            cut 0 0 -2147483648 ! IAE
            count 3 = 2
            cut 0 0 20 = 1
            line 0 0 = 10-19:70r
            line 0 1 = 20-20:70r
            cut 0 0 11 = 2
            line 0 0 = 10-10:70r
            line 0 1 = 20-20:70r
            line 0 2 = 11-19:70r
            time 0 2 0 5999 = 770
            cut 0 0 10 ! IAE
            cut 0 0 11 ! IAE
            spell 0 0 0 3 9 2 = 3
            cut 0 3 2 = 4
            line 0 4 = 2-3:9g
            undo = 5
            line 0 3 = 0-3:9g
            ofMember 0 2 = 4
            """);
    }

    private static void death() {
        Script.run("6 death", """
            death 0 5 ! IOOBE
            member 50 = 0
            spell 0 0 50 99 100 0 = 0
            death 1 60 ! IOOBE
            death -1 60 ! IOOBE
            death 0 49 ! IAE
            death 0 -2 ! IAE
            death 0 6000 ! IAE
            ofMember 0 1 = -1
            death 0 50 = -1
            time 0 0 0 5999 = 100    # the day of death itself counts
            death 0 5999 = 50
            time 0 0 0 5999 = 5000
            death 0 70 = 5999
            has 0 0 70 = 100
            has 0 0 71 = 0
            worked 0 0 14 = 100
            death 0 -1 = 70
            ofMember 0 1 = -1
            has 0 0 71 = 100
            death 0 -1 = -1
            count 3 = 7
            undo = 6
            undo = 5
            ofMember 0 1 = 70
            has 0 0 71 = 0
            """);
    }

    private static void partsOfDays() {
        Script.run("27 has, of one house", """
            member 0 = 0
            spell 0 0 10 19 40 0 = 0
            spell 0 0 15 24 70 1 = 1
            spell 0 0 22 22 1 2 = 2
            spell 0 0 0 4 100 2 = 3
            has 0 0 9 = 0
            has 0 0 10 = 40
            has 0 0 14 = 40
            has 0 0 15 = 70    # the greatest one, not the sum
            has 0 0 19 = 70
            has 0 0 22 = 0     # a gap takes all
            has 0 0 23 = 70
            has 0 0 25 = 0
            has 0 1 15 = 0
            has 1 0 0 ! IOOBE
            has 0 3 0 ! IOOBE
            has 0 -1 -1 ! IOOBE
            has 0 0 -1 ! IAE
            has 0 0 6000 ! IAE
            spell 0 1 0 99 30 0 = 4
            has 0 1 22 = 30    # a gap is of its house alone
            has 0 1 15 = 30
            """);
    }

    private static void housesInOrder() {
        Script.run("27 has, of one hundred for all houses", """
            member 0 = 0
            spell 0 2 0 99 50 0 = 0
            spell 0 1 0 79 60 0 = 1
            spell 0 0 0 39 70 0 = 2
            has 0 0 0 = 70
            has 0 1 0 = 30
            has 0 2 0 = 0
            has 0 1 40 = 60
            has 0 2 40 = 40
            has 0 2 80 = 50
            spell 0 0 20 29 1 2 = 3
            has 0 0 20 = 0
            has 0 1 20 = 60
            has 0 2 20 = 40
            time 0 0 0 99 = 2100
            time 0 1 0 99 = 3900
            time 0 2 0 99 = 3000
            spell 0 1 60 60 100 1 = 4
            has 0 1 60 = 100
            has 0 2 60 = 0
            isSound = true
            """);
    }

    private static void worked() {
        Script.run("29 worked", """
            member 0 = 0
            spell 0 1 10 19 40 0 = 0
            spell 0 1 13 30 70 1 = 1
            worked 0 1 2 = 200     # rest is had, but not worked
            worked 0 1 3 = 200
            worked 0 1 4 = 0
            has 0 1 14 = 70
            spell 0 0 12 12 80 0 = 2
            worked 0 1 2 = 180     # only 20 are left to have, and so to work
            spell 0 0 14 14 90 1 = 3
            worked 0 1 2 = 150
            spell 0 1 11 11 9 2 = 4
            worked 0 1 2 = 110
            worked 0 0 2 = 80
            worked 0 1 -1 ! IAE
            worked 0 1 1200 ! IAE
            worked 0 3 1200 ! IOOBE
            worked 1 0 0 ! IOOBE
            worked 0 1 1199 = 0
            spell 0 2 5990 5999 33 0 = 5
            worked 0 2 1199 = 165
            worked 0 2 1198 = 165
            worked 0 2 1197 = 0
            """);
    }

    private static void time() {
        Script.run("28 time", """
            member 0 = 0
            spell 0 0 100 199 100 0 = 0
            spell 0 0 150 249 40 0 = 1
            time 0 0 0 99 = 0
            time 0 0 0 100 = 100
            time 0 0 100 100 = 100
            time 0 0 199 200 = 140
            time 0 0 249 250 = 40
            time 0 0 250 5999 = 0
            time 0 0 0 5999 = 12000
            time 0 0 5 4 ! IAE
            time 0 0 -1 4 ! IAE
            time 0 0 4 6000 ! IAE
            time 0 3 5 4 ! IOOBE
            time 1 0 5 4 ! IOOBE
            spell 0 0 5999 5999 7 0 = 2
            time 0 0 5999 5999 = 7
            spell 0 0 0 0 8 0 = 3
            time 0 0 0 0 = 8
            time 0 0 0 5999 = 12015
            """);
    }
}
