import java.math.BigInteger;
import java.util.ArrayList;
import java.util.List;

/** Promises 58 (isSound) and 59 (digest): the checksum is reckoned once more here, from the answers of the face. */
public final class WholeTest {
    public static void main(String[] none) {
        Pensionledger x = new Pensionledger();
        same(x, "a new object");
        furnish(x);
        same(x, "a full ledger");
        for (int i = 0; i < 12; i++) {
            x.payOut(0);
            x.wage(0, 0, 0, 900 - 70 * i);
        }
        same(x, "after payments");
        x.type(1, 10, 2, 11, 3, 12);
        x.knock();
        same(x, "with a line");
        x.undo();
        same(x, "a step back");
        if (x.digest() != x.digest() || !x.isSound()) {
            wrong("asking changes something");
        }
        Script.run("59 digest", "digest = " + digestOfNew());
        same(Script.run("as many of everything as there can be", EdgesOfWords.FULL), "as many of everything as there can be");
        same(Script.run("on the first day", ON_ONE_DAY.replace("D", "0")), "all on the first day");
        same(Script.run("on the last day", ON_ONE_DAY.replace("D", "5999")), "all on the last day");
        Script.end();
    }

    private static final String ON_ONE_DAY = """
            member D = 0
            member D = 1
            spell 0 0 D D 100 0 = 0
            spell 0 2 D D 1 0 = 1
            spell 1 1 D D 100 2 = 0
            wage 0 0 0 9999 = 0
            marry 0 1 D = 0
            death 0 D = -1
            terms 0 0 0 10 10 = 2
            """;

    private static void wrong(String what) {
        System.out.println(what);
        System.exit(1);
    }

    private static void same(Pensionledger x, String when) {
        if (!x.isSound()) {
            wrong("isSound() of " + when);
        }
        long due = digest(x);
        if (x.digest() != due) {
            wrong("digest() of " + when + " answered " + x.digest() + ", due is " + due);
        }
    }

    private static void furnish(Pensionledger x) {
        for (int m = 0; m < 4; m++) {
            x.member(m * 77);
            for (int n = 0; n < 10 - m; n++) {
                x.spell(m, n % 3, 400 + 211 * n, 900 + 307 * n, 100 - 9 * n, n == 7 ? 2 : n % 2);
            }
            for (int h = 0; h < 3; h++) {
                x.wage(m, h, 0, 300 + 100 * m + 17 * h);
                x.wage(m, h, 200 + 10 * h, 700);
            }
        }
        for (int y = 1; y < 13; y++) {
            x.price(8 * y, 90 + 7 * y);
        }
        for (int h = 0; h < 3; h++) {
            x.form(h, h, 4, 7000);
            x.rule(h, 900, 33, 9 * h, 12);
            x.raise(h, h - 1, 3 * h + 1);
            x.lessen(h, 500 + 50 * h, 120);
            x.annuity(h, 40, 17 - h);
            x.bridge(h, 11 * h, 700);
        }
        x.tie(0, 2, true);
        x.marry(0, 1, 500);
        x.divide(0, 1300, 45);
        x.marry(0, 2, 1400);
        x.divide(1, 2100, 20);
        x.marry(3, 0, 2100);
        x.death(0, 3900);
        for (int h = 0; h < 3; h++) {
            x.go(h, h, 640, h);
        }
    }

    /** Nothing but the order of the document, with what stands in a new ledger written out. */
    private static long digestOfNew() {
        long d = 6553;
        for (int i = 0; i < 9; i++) {
            d = d * 31;
        }
        for (int h = 0; h < 3; h++) {
            for (int v : new int[] {1, 2, 720, 0, 60, 0, 5, 0, 0, 0, 1 << h, 1, 100, 100, 100}) {
                d = d * 31 + v;
            }
        }
        return (d * 31 + 0) * 31 + 1;
    }

    private static final BigInteger AROUND = BigInteger.ONE.shiftLeft(64);

    /** With numbers that never wrap around, and in the end what is left of them in 64 bits. */
    private static long digest(Pensionledger x) {
        BigInteger d = BigInteger.valueOf(6553);
        for (int v : values(x)) {
            d = d.multiply(BigInteger.valueOf(31)).add(BigInteger.valueOf(v));
        }
        if (d.compareTo(AROUND.pow(4)) < 0) {
            wrong("a digest that does not wrap around looks at nothing");
        }
        return d.mod(AROUND).longValue();
    }

    private static List<Integer> values(Pensionledger x) {
        List<Integer> all = new ArrayList<>();
        for (int i = 0; i <= 8; i++) {
            all.add(x.count(i));
        }
        for (int m = 0; m < x.count(0); m++) {
            addMember(x, all, m);
        }
        for (int k = 0; k < x.count(1); k++) {
            for (int i = 0; i <= 4; i++) {
                all.add(x.ofMarriage(k, i));
            }
        }
        for (int h = 0; h < 3; h++) {
            for (int i = 0; i <= 10; i++) {
                all.add(x.ofHouse(h, i));
            }
            all.add(x.level(h, 40, 50).length());
            for (int i = 0; i <= 2; i++) {
                all.add(x.ofClass(h, i, 720));
            }
        }
        for (int s = 0; s < x.count(2); s++) {
            for (int i = 0; i <= 7; i++) {
                all.add(x.ofStream(s, i));
            }
            all.add(x.due(s, x.ofStream(s, 2)));
        }
        all.add(x.fault());
        all.add(x.isSound() ? 1 : 0);
        return all;
    }

    private static void addMember(Pensionledger x, List<Integer> all, int m) {
        for (int i = 0; i <= 4; i++) {
            all.add(x.ofMember(m, i));
        }
        for (int n = 0; n < x.ofMember(m, 2); n++) {
            all.add(x.line(m, n).length());
        }
        for (int h = 0; h < 3; h++) {
            all.add(x.time(m, h, 0, 5999));
            all.add(x.earned(m, h, 5999).length());
            all.add(x.base(m, h, 60).length());
            all.add(x.pension(m, h, 720).length());
            all.add(x.isOwn(m, h, 3000) ? 1 : 0);
            all.add(x.factor(m, h, 700));
            all.add(x.widow(m, h).length());
        }
    }
}
