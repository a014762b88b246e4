/** Promises 23 to 26 (enter, type, undo, knock), 50 to 57 (line, ofMember, ofHouse, then, typed, fault, count). */
public final class StepsTest {
    public static void main(String[] none) {
        type();
        typeLimits();
        fault();
        faultOfEachSign();
        enter();
        enterRefused();
        line();
        knock();
        undo();
        undoAll();
        changesThatCount();
        then();
        ofMember();
        ofHouse();
        count();
        Script.end();
    }

    private static void type() {
        Script.run("24 type, 55 typed", """
            typed =
            type -1 -1 -1 -1 -1 -1 = 0
            type 15 15 -1 -1 -1 -1 = 0       # none to go
            type 0 1 2 3 4 5 = 6
            type 6 7 8 9 -1 -1 = 10
            type 10 11 12 13 -1 -1 = 14
            typed = 0123456789-:wr
            type 15 14 -1 -1 -1 -1 = 14
            typed = 0123456789-:wg
            type 15 15 15 -1 7 -1 = 12
            typed = 0123456789-7
            type 1 16 2 3 15 -1 = 1
            typed = 2
            type 16 -1 -1 -1 -1 -1 = 0
            typed =
            count 3 = 0
            undo ! ISE
            """);
    }

    private static void typeLimits() {
        Script.run("24 type, wrong", """
            type 17 0 0 0 0 0 ! IAE
            type 0 17 0 0 0 0 ! IAE
            type 0 0 17 0 0 0 ! IAE
            type 0 0 0 17 0 0 ! IAE
            type 0 0 0 0 17 0 ! IAE
            type 0 0 0 0 0 17 ! IAE
            type -2 0 0 0 0 0 ! IAE
            type 0 0 0 0 0 -2 ! IAE
            type 2147483647 0 0 0 0 -2147483648 ! IAE
            typed =
            type 1 1 1 1 1 1 = 6
            type 2 2 2 2 2 2 = 12
            type 3 3 3 15 15 15 ! ISE        # too many at some moment
            type 3 3 3 17 0 0 ! IAE
            typed = 111111222222
            type 15 3 3 3 -1 -1 = 14
            type -1 -1 -1 -1 -1 0 ! ISE
            type -1 -1 -1 -1 -1 -1 = 14
            type 16 4 -1 -1 -1 -1 = 1
            count 5 = 1
            """);
    }

    private static void fault() {
        Script.run("56 fault", """
            fault = 0
            type 5 -1 -1 -1 -1 -1 = 1
            fault = 1                        # one is missing
            type 9 9 9 -1 -1 -1 = 4
            fault = 4
            type 0 10 -1 -1 -1 -1 = 6
            fault = 4                        # the fifth digit
            type 15 15 10 -1 -1 -1 = 5
            fault = 5
            type 0 0 0 0 -1 -1 = 9
            fault = 9
            type 11 1 0 0 12 -1 = 14
            typed = 5999-0000:100w
            fault = -1
            type 15 13 -1 -1 -1 -1 = 14
            fault = -1
            type 15 14 -1 -1 -1 -1 = 14
            fault = -1
            type 15 0 -1 -1 -1 -1 = 14
            fault = 13                       # a fourth digit of the part
            type 16 1 10 2 11 3 = 5
            fault = 5
            type 14 -1 -1 -1 -1 -1 = 6
            fault = -1
            type 14 -1 -1 -1 -1 -1 = 7
            fault = 6                        # nothing can stand behind the kind
            type 15 3 -1 -1 -1 -1 = 7
            fault = 6
            type 15 10 11 -1 -1 -1 = 8
            fault = 6
            """);
    }

    private static void faultOfEachSign() {
        Script.run("56 fault of a sign at a wrong place", """
            type 10 -1 -1 -1 -1 -1 = 1
            fault = 0
            type 16 11 1 -1 -1 -1 = 2
            fault = 0
            type 16 12 -1 -1 -1 -1 = 1
            fault = 0
            type 16 1 11 -1 -1 -1 = 2
            fault = 1
            type 16 1 12 -1 -1 -1 = 2
            fault = 1
            type 16 1 10 10 -1 -1 = 3
            fault = 2
            type 16 1 10 11 -1 -1 = 3
            fault = 2
            type 16 1 10 2 10 -1 = 4
            fault = 3
            type 16 1 10 2 13 -1 = 4
            fault = 3
            type 16 1 10 2 11 11 = 5
            fault = 4
            type 16 1 10 2 11 12 = 5
            fault = 4
            type 16 1 10 2 11 10 = 5
            fault = 4
            type 15 4 10 -1 -1 -1 = 6
            fault = 5
            type 15 11 -1 -1 -1 -1 = 6
            fault = 5
            type 16 1 10 2 3 4 = 5
            type 5 6 -1 -1 -1 -1 = 7
            fault = 6                        # the fifth digit of TO
            """);
    }

    private static void enter() {
        Script.run("23 enter", """
            enter 0 0 ! IOOBE
            member 5 = 0
            enter 1 0 ! IOOBE
            enter 0 3 ! IOOBE
            enter 0 -1 ! IOOBE
            enter 0 0 = -2
            type 0 0 0 7 10 0 = 6
            enter 0 0 = -8
            type 0 0 9 11 0 5 = 12
            enter 0 0 = -14
            type 13 0 -1 -1 -1 -1 = 14
            enter 0 0 = -15                  # fault 13
            type 15 -1 -1 -1 -1 -1 = 13
            typed = 0007-0009:05r
            count 3 = 1
            enter 0 2 = 0
            count 3 = 2
            typed =
            count 5 = 0
            line 0 0 = 7-9:5r
            has 0 2 8 = 5
            has 0 2 10 = 0
            undo = 1
            ofMember 0 2 = 0
            typed =                          # a step back does not type again
            type 8 10 8 11 1 0 = 6
            type 0 14 -1 -1 -1 -1 = 8
            enter 0 1 = 0
            line 0 0 = 8-8:100g
            type 9 10 9 11 9 12 = 6
            enter 0 1 = 1
            line 0 1 = 9-9:9w
            """);
    }

    private static void enterRefused() {
        Script.run("23 enter, refused", """
            member 5 = 0
            type 4 10 9 11 1 12 = 6
            enter 0 0 = -50                  # ahead of the birth
            typed = 4-9:1w
            type 16 9 10 8 11 1 = 5
            type 12 -1 -1 -1 -1 -1 = 6
            enter 0 0 = -50
            type 16 8 10 9 11 0 = 5
            type 12 -1 -1 -1 -1 -1 = 6
            enter 0 0 = -50
            type 15 15 1 0 1 12 = 8
            typed = 8-9:101w
            enter 0 0 = -50
            type 15 15 0 12 -1 -1 = 8
            enter 0 0 = 0
            type 8 10 6 0 0 0 = 6
            type 11 1 12 -1 -1 -1 = 9
            enter 0 0 = -50
            type 16 6 0 0 0 10 = 5
            type 6 0 0 0 11 1 = 11
            type 13 -1 -1 -1 -1 -1 = 12
            enter 0 0 = -50
            enter 0 3 ! IOOBE
            enter 1 0 ! IOOBE
            count 3 = 2
            x9: spell 0 0 5 5 1 0 = _
            type 16 8 10 9 11 5 = 5
            type 12 -1 -1 -1 -1 -1 = 6
            enter 0 0 = -50                  # it has ten
            unspell 0 0 = 9
            enter 0 0 = 9
            """);
    }

    private static void line() {
        Script.run("50 line", """
            line 0 0 ! IOOBE
            member 0 = 0
            line 0 0 ! IOOBE
            spell 0 0 0 59 100 0 = 0
            spell 0 1 1000 5999 1 1 = 1
            spell 0 2 10 200 30 2 = 2
            line 0 0 = 0-59:100w
            line 0 1 = 1000-5999:1r
            line 0 2 = 10-200:30g
            line 0 3 ! IOOBE
            line 0 -1 ! IOOBE
            line 1 0 ! IOOBE
            spell 0 0 5999 5999 100 0 = 3
            line 0 3 = 5999-5999:100w
            """);
    }

    private static void knock() {
        Script.run("26 knock", """
            knock = 1
            knock = 2
            count 6 = 2
            count 3 = 0
            member 0 = 0
            knock = 3
            undo = 0
            count 6 = 3
            knock = 4
            """);
    }

    private static void undo() {
        Script.run("25 undo", """
            undo ! ISE
            interest 1 = 0
            interest 2 = 1
            interest 3 = 2
            interest 4 = 3
            interest 5 = 4
            interest 6 = 5
            interest 7 = 6
            count 3 = 7
            interest 8 = 7
            count 3 = 8
            interest 9 = 8
            interest 10 = 9
            count 3 = 8
            undo = 7
            count 4 = 9
            undo = 6
            interest 0 = 8
            count 3 = 7
            undo = 6
            undo = 5
            undo = 4
            undo = 3
            undo = 2
            undo = 1
            undo = 0
            count 4 = 2                      # ten changes, eight steps back
            undo ! ISE
            interest 5 = 2
            count 3 = 1
            undo = 0
            count 4 = 2
            """);
    }

    private static void undoAll() {
        Script.run("25 undo, of each kind", """
            member 7 = 0
            member 8 = 1
            undo = 1
            count 0 = 1
            spell 0 0 10 129 100 0 = 0
            unspell 0 0 = 0
            undo = 2
            line 0 0 = 10-129:100w
            cut 0 0 20 = 1
            undo = 2
            line 0 0 = 10-129:100w
            ofMember 0 2 = 1
            time 0 0 0 5999 = 12000
            death 0 30 = -1
            undo = 2
            time 0 0 0 5999 = 12000
            wage 0 0 3 50 = 0
            undo = 2
            yearPay 0 0 0 0 = 0
            wage 0 0 3 50 = 0
            wage 0 0 3 60 = 50
            undo = 3
            wage 0 0 3 50 = 50
            undo = 3
            price 2 50 = 100
            undo = 3
            count 7 = 0
            rule 0 0 1 1 1 = 1
            undo = 3
            earned 0 0 130 = 1/25
            rule 0 5 1 1 1 = 2
            undo = 3
            ofHouse 0 0 = 1
            terms 0 1 2 3 4 = 2
            undo = 3
            factor 0 0 0 = 0
            ofHouse 0 1 = 2
            ofHouse 0 2 = 720
            form 0 2 1 1 = 0
            undo = 3
            base 0 0 2 = 350
            ofHouse 0 3 = 0
            form 0 2 1 100 = 0
            form 0 2 1 200 = 2
            undo = 4
            base 0 0 2 = 100
            undo = 3
            rule 0 9 20 0 8 = 2
            rule 0 9 20 0 9 = 2
            undo = 4
            earned 0 0 11 = 1/7500
            undo = 3
            tie 0 1 true = 1
            undo = 3
            ofHouse 0 10 = 1
            widows 0 1 = 60
            undo = 3
            ofHouse 0 4 = 60
            raise 0 -1 9 = 5
            undo = 3
            ofHouse 0 5 = 0
            ofHouse 0 6 = 5
            lessen 0 0 50 = 250
            undo = 3
            ofClass 0 2 0 = 100
            ofHouse 0 8 = 0
            annuity 0 0 1 = 20
            undo = 3
            ofHouse 0 9 = 0
            interest 7 = 0
            undo = 3
            count 4 = 0
            member 0 = 1
            marry 0 1 5 = 0
            divide 0 15 50 = 10
            undo = 5
            ofMarriage 0 3 = -1
            ofMarriage 0 4 = -1
            undo = 4
            ofMember 0 3 = -1
            count 1 = 0
            bridge 0 5 1199 = 0
            go 0 0 26 0 = 0
            undo = 5
            ofMember 0 4 = 0
            go 0 0 26 0 = 0
            payOut 0 = 5
            undo = 6
            ofStream 0 4 = 0
            payOut 0 = 5
            bridge 0 9 1199 = 5
            payOut 0 = 13
            undo = 7
            ofStream 0 7 = 5
            """);
    }

    private static void changesThatCount() {
        Script.run("3 of count: what is a change", """
            member 0 = 0
            count 3 = 1
            member -1 ! IAE
            enter 0 0 = -2
            type 1 10 0 11 1 12 = 6
            enter 0 0 = -50
            knock = 1
            has 0 0 0 = 0
            isSound = true
            digest = _
            count 3 = 1
            death 0 -1 = -1                  # tells -1, but that is not below it
            count 3 = 2
            interest 0 = 0                   # changes nothing, and is a change
            count 3 = 3
            undo = 2
            undo = 1
            undo = 0
            count 0 = 0
            typed = 1-0:1w
            """);
    }

    private static void then() {
        Script.run("54 then", """
            then 0 0 0 0 ! IOOBE
            then -1 0 3 0 ! IAE
            then 9 0 3 0 ! IAE
            then 1 0 0 0 ! ISE
            then 1 0 0 6000 ! IAE
            then 1 0 3 0 ! ISE
            then 0 0 0 -1 ! IAE
            member 0 = 0
            then 0 0 0 60 = 0
            then 1 0 0 60 ! IOOBE            # there was none
            then 0 0 3 60 ! IOOBE
            then 0 1 0 60 ! IOOBE
            spell 0 0 0 59 100 0 = 0
            rule 0 0 40 30 10 = 1
            spell 0 0 0 29 100 2 = 1
            death 0 44 = -1
            death 0 30 = 44
            then 0 0 0 60 = 1/1500
            then 1 0 0 60 = 1/100
            then 2 0 0 60 = 1/50
            then 3 0 0 60 = 1/25
            then 3 0 0 30 = 1/50
            then 4 0 0 60 = 1/50
            then 5 0 0 60 = 0
            then 6 0 0 60 ! IOOBE
            then 7 0 0 60 ! ISE
            earned 0 0 60 = 1/1500
            count 3 = 6
            undo = 5
            then 0 0 0 60 = 1/100
            then 2 0 0 60 = 1/25
            then 5 0 0 60 ! IOOBE
            then 6 0 0 60 ! ISE
            x7: interest 1 = _
            then 8 0 0 60 = 1/50
            then 7 0 0 60 = 1/100
            then 0 0 0 60 = 1/100
            """);
    }

    private static void ofMember() {
        Script.run("51 ofMember", """
            ofMember 0 0 ! IOOBE
            member 33 = 0
            ofMember 1 5 ! IOOBE
            ofMember -1 0 ! IOOBE
            ofMember 0 -1 ! IAE
            ofMember 0 5 ! IAE
            ofMember 0 0 = 33
            ofMember 0 1 = -1
            ofMember 0 2 = 0
            ofMember 0 3 = -1
            ofMember 0 4 = 0
            death 0 40 = -1
            ofMember 0 1 = 40
            """);
    }

    private static void ofHouse() {
        Script.run("53 ofHouse", """
            ofHouse 3 0 ! IOOBE
            ofHouse -1 11 ! IOOBE
            ofHouse 0 -1 ! IAE
            ofHouse 0 11 ! IAE
            rule 2 9 1 1 1 = 2
            terms 2 3 4 5 6 = 2
            form 2 1 1 1 = 0
            widows 2 70 = 60
            raise 2 -3 8 = 5
            bridge 2 90 91 = 0
            lessen 2 5 1 = 299
            annuity 2 5 6 = 20
            tie 2 0 true = 1
            ofHouse 2 0 = 2
            ofHouse 2 1 = 3
            ofHouse 2 2 = 4
            ofHouse 2 3 = 1
            ofHouse 2 4 = 70
            ofHouse 2 5 = -3
            ofHouse 2 6 = 8
            ofHouse 2 7 = 90
            ofHouse 2 8 = 1
            ofHouse 2 9 = 1
            ofHouse 2 10 = 5
            """);
    }

    private static void count() {
        Script.run("57 count", """
            count -1 ! IAE
            count 9 ! IAE
            member 0 = 0
            member 0 = 1
            marry 0 1 0 = 0
            price 5 5 = 100
            price 5 6 = 5
            interest 4 = 0
            terms 0 0 0 0 0 = 2
            bridge 0 6 1199 = 0
            go 0 0 0 0 = 0
            go 1 0 0 0 = 1
            payOut 0 = 6
            payOut 0 = 6
            payOut 1 = 6
            type 1 1 1 -1 -1 -1 = 3
            knock = 1
            count 0 = 2
            count 1 = 1
            count 2 = 2
            count 3 = 8
            count 4 = 4
            count 5 = 3
            count 6 = 1
            count 7 = 1
            count 8 = 18
            """);
    }
}
