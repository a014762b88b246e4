/**
 * Promise 25: each kind of CHANGE, once for what is new and once for what comes in the place of another one, is
 * seen in what the ledger answers, and gone from all of that when it is UNDONE.
 */
public final class UndoTest {
    private static final String START = """
        member 0 = 0
        member 30 = 1
        member 60 = 2
        spell 0 0 0 1199 80 0 = 0
        spell 0 1 600 1799 60 0 = 1
        spell 0 0 300 330 10 2 = 2
        spell 1 2 100 1299 100 0 = 0
        spell 2 0 100 400 30 0 = 0
        wage 0 0 0 500 = 0
        wage 0 0 132 900 = 500
        wage 0 1 120 700 = 0
        wage 1 2 0 800 = 0
        price 15 150 = 100
        rule 0 600 30 15 5 = 2
        terms 0 2 300 3 5 = 2
        terms 1 2 300 3 5 = 2
        marry 0 1 100 = 0
        divide 0 900 40 = 800
        marry 0 2 1000 = 1
        death 1 3000 = -1
        death 2 2900 = -1
        raise 1 -5 10 = 5
        lessen 0 400 150 = 150
        annuity 0 20 12 = 20
        bridge 0 20 800 = 0
        tie 0 1 true = 1
        go 0 0 240 0 = 0
        payOut 0 = _
        payOut 0 = _
        go 1 2 300 1 = 1
        interest 3 = 0
        undo = 7
        type 7 0 10 7 9 11 = 6
        type 5 12 -1 -1 -1 -1 = 8
        """;

    private static final String[] CHANGES = {
        "member 5", "spell 0 2 700 800 50 0", "spell 2 0 60 60 1 1", "unspell 0 0", "unspell 0 2", "cut 0 0 500", "death 0 2000",
        "death 1 -1", "death 1 900", "death 2 1100", "wage 0 0 60 1", "wage 0 0 0 1", "wage 2 0 0 1", "price 10 300", "price 15 300",
        "rule 0 60 50 1 1", "rule 0 600 31 15 5", "rule 0 600 30 14 5", "rule 0 600 30 15 6", "rule 0 0 21 30 10", "rule 2 0 20 1 10",
        "terms 0 1 300 3 5", "terms 0 2 301 3 5", "terms 0 2 300 4 5", "terms 0 2 300 3 6", "form 0 1 3 99999", "form 0 0 4 99999",
        "form 0 2 3 99999", "form 0 2 3 4000", "tie 0 1 false", "tie 1 2 true", "marry 0 1 2950", "divide 1 1500 30", "divide 1 1500 31",
        "widows 2 10", "raise 1 -4 10", "raise 1 -5 9", "bridge 0 21 800", "bridge 0 20 241", "lessen 0 300 10", "lessen 0 400 10",
        "annuity 0 10 3", "annuity 0 20 3", "go 0 1 400 2", "payOut 0", "payOut 1", "interest 9", "enter 2 1"};

    public static void main(String[] none) {
        for (String change : CHANGES) {
            changeAndBack(change, false);
            changeAndBack(change, true);
        }
        Script.end();
    }

    /** Also with the change told once ahead of it: then this one may come in its place, or be refused. */
    private static void changeAndBack(String change, boolean twice) {
        Pensionledger ledger = Script.run("25 undo", START);
        String[] words = change.split(" ");
        if (twice) {
            Script.answer(ledger, words);
        }
        String before = picture(ledger);
        String told = Script.answer(ledger, words);
        String changed = picture(ledger);
        boolean isChange = !told.startsWith("throws") && Integer.parseInt(told) >= -1;
        if (!twice && (!isChange || changed.equals(before))) {
            fail(change + " answered " + told + ", and nothing shows it");
        }
        if (isChange) {
            Script.answer(ledger, new String[] {"undo"});
        }
        if (!picture(ledger).equals(before)) {
            fail(change + " is not all gone: \n" + before + "\n" + changed + "\n" + picture(ledger));
        }
    }

    private static void fail(String what) {
        System.out.println(what);
        System.exit(1);
    }

    /** What can be asked of it, in some hundred questions; not how many changes can be undone, nor what is typed. */
    private static String picture(Pensionledger x) {
        StringBuilder to = new StringBuilder();
        for (int what : new int[] {0, 1, 2, 4, 7, 8}) {
            to.append(x.count(what)).append(' ');
        }
        for (int m = 0; m < x.count(0); m++) {
            for (int what = 0; what <= 4; what++) {
                to.append(x.ofMember(m, what)).append(' ');
            }
            for (int n = 0; n < x.ofMember(m, 2); n++) {
                to.append(x.line(m, n)).append(' ');
            }
            for (int h = 0; h < 3; h++) {
                pictureOf(x, to, m, h);
            }
        }
        for (int g = 0; g < x.count(1); g++) {
            for (int what = 0; what <= 4; what++) {
                to.append(x.ofMarriage(g, what)).append(' ');
            }
        }
        for (int h = 0; h < 3; h++) {
            for (int what = 0; what <= 10; what++) {
                to.append(x.ofHouse(h, what)).append(' ');
            }
            to.append(x.level(h, 9, 16)).append(' ').append(x.ofClass(h, 1, 350)).append(' ').append(x.ofClass(h, 1, 450)).append(' ');
        }
        for (int s = 0; s < x.count(2); s++) {
            for (int what = 0; what <= 7; what++) {
                to.append(x.ofStream(s, what)).append(' ');
            }
            for (int n = 0; n < x.ofStream(s, 4); n++) {
                to.append(x.paid(s, n)).append(' ');
            }
            to.append(x.due(s, x.ofStream(s, 2))).append(' ').append(x.due(s, x.ofStream(s, 2) + 1)).append(' ');
        }
        return to.toString();
    }

    private static void pictureOf(Pensionledger x, StringBuilder to, int m, int h) {
        to.append(x.time(m, h, 0, 5999)).append(' ').append(x.yearPay(m, h, 5, 5)).append(' ').append(x.yearPay(m, h, 1, 12)).append(' ');
        to.append(x.base(m, h, 15)).append(' ').append(x.base(m, h, 3)).append(' ').append(x.earned(m, h, 5999)).append(' ');
        to.append(x.isOwn(m, h, 1000)).append(' ').append(x.factor(m, h, 200)).append(' ').append(x.factor(m, h, 310)).append(' ');
        to.append(x.kept(m, h, 240, 240)).append(' ').append(x.value(m, h, 150)).append(' ').append(x.value(m, h, 250)).append(' ');
        to.append(x.widow(m, h)).append('\n');
    }
}
