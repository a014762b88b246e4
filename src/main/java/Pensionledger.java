import java.util.Arrays;

/**
 * A ledger in which years of work become years of rest.
 *
 * <p>What is told stands in a Book; nothing that follows from it is kept there, but reckoned anew
 * when it is asked for. So what is put right late works on everything at once, and a step back is
 * nothing but an older Book. No call makes rows of its own: all of them are made here once.
 */
public final class Pensionledger {
    private static final int NONE = -1;

    private static final int DAYS = 6000;
    private static final int MONTHS = 1200;
    private static final int YEARS = 100;
    private static final int MONTH_DAYS = 5;
    private static final int YEAR_DAYS = 60;
    private static final int YEAR_MONTHS = 12;
    private static final int YEAR_TIME = 6000;

    private static final int MEMBERS = 4;
    private static final int HOUSES = 3;
    private static final int SPELLS = 10;
    private static final int MARRIAGES = 4;
    private static final int STREAMS = 6;
    private static final int CLASSES = 3;
    private static final int PAYMENTS = 24;
    private static final int STEPS = 8;

    private static final int WORK = 0;
    private static final int GAP = 2;
    private static final int KINDS = 3;

    private static final int BEST = 0;
    private static final int ALL = 1;
    private static final int LAST = 2;
    private static final int FORMS = 3;

    private static final int WAGES_TOLD = 8;
    private static final int PRICES_TOLD = 12;
    private static final int RULES_TOLD = 6;
    private static final int POINTS_TOLD = 8;
    private static final int ANNUITIES_TOLD = 6;

    private static final int FIRST_PRICE = 100;
    private static final int MOST_POINTS = 300;
    private static final int FIRST_ANNUITY = 20;
    private static final int EARNED_UNITS = 6000000;
    private static final int PAY_UNITS = 500;
    private static final int PENSION_UNITS = 12000;
    private static final int MOST_DUE = 99999;
    private static final int MOST_BOUND = 99999;

    private static final int LEVEL_YEARS = 20;
    private static final int BEST_MONTHS = 36;
    private static final int DUE_MONTHS = 120;

    private static final String SIGNS = "0123456789-:wrg";
    private static final int SIGNS_TYPED = 14;
    private static final int DASH = 10;
    private static final int COLON = 11;
    private static final int FIRST_LETTER = 12;
    private static final int SIGN_BACK = 15;
    private static final int SIGN_CLEAR = 16;
    private static final int REFUSED = -50;

    private final Book book;
    private final Book[] past;
    private int nextStep;
    private int undoable;
    private int knocks;
    private final Signs typing;
    private final Signs draft;
    private final Reckoning reckoning;
    private final Amount answer;
    private final Amount second;
    private final Amount third;
    private final Parts probe;
    private final Person sketch;
    private final int[] timeSums;
    private final int[] earnedSums;

    public Pensionledger() {
        reckoning = new Reckoning();
        book = reckoning.book;
        past = new Book[STEPS];
        for (int i = 0; i < past.length; i++) {
            past[i] = new Book();
        }
        typing = new Signs();
        draft = new Signs();
        answer = new Amount();
        second = new Amount();
        third = new Amount();
        probe = new Parts();
        sketch = new Person();
        timeSums = new int[HOUSES];
        earnedSums = new int[HOUSES];
    }

    // ---- changes: look first, throw what is due, then keep() the book as it was, then change it

    public int member(int birth) throws IllegalArgumentException, IllegalStateException {
        need(isDay(birth));
        allow(book.members < MEMBERS);
        keep();
        int number = book.addMember(birth);
        reckoning.settle(number);
        return number;
    }

    public int spell(int member, int house, int from, int to, int part, int kind)
            throws IndexOutOfBoundsException, IllegalArgumentException, IllegalStateException {
        needMember(member);
        needHouse(house);
        need(isSpell(from, to, part) && isWithin(kind, 0, KINDS - 1));
        allow(takesSpell(book.person(member), from));
        return addSpell(member, house, from, to, part, kind);
    }

    public int unspell(int member, int nth) throws IndexOutOfBoundsException {
        needSpell(member, nth);
        keep();
        Person person = book.person(member);
        person.remove(nth);
        reckoning.settle(member);
        return person.spells;
    }

    public int cut(int member, int nth, int day)
            throws IndexOutOfBoundsException, IllegalArgumentException, IllegalStateException {
        needSpell(member, nth);
        Person person = book.person(member);
        int to = person.toOf(nth);
        need(day > person.fromOf(nth) && day <= to);
        allow(person.spells < SPELLS);
        keep();
        person.endAt(nth, day - 1);
        person.add(person.houseOf(nth), day, to, person.partOf(nth), person.kindOf(nth));
        reckoning.settle(member);
        return person.spells - 1;
    }

    public int death(int member, int day) throws IndexOutOfBoundsException, IllegalArgumentException {
        needMember(member);
        Person person = book.person(member);
        need(day == NONE || isDay(day) && day >= person.birth);
        keep();
        int before = person.death;
        person.death = day;
        reckoning.settle(member);
        return before;
    }

    public int wage(int member, int house, int month, int coins)
            throws IndexOutOfBoundsException, IllegalArgumentException, IllegalStateException {
        needMember(member);
        needHouse(house);
        need(isMonth(month) && isWithin(coins, 0, 9999));
        Told wages = book.person(member).wagesAt(house);
        allow(wages.takes(month));
        keep();
        int before = wages.valueAt(month, 0);
        wages.tell(month, coins);
        return before;
    }

    public int price(int year, int price) throws IllegalArgumentException, IllegalStateException {
        need(isYear(year) && isWithin(price, 1, 9999));
        allow(book.prices.takes(year));
        keep();
        int before = book.prices.valueAt(year, FIRST_PRICE);
        book.prices.tell(year, price);
        return before;
    }

    public int rule(int house, int day, int rate, int bend, int behind)
            throws IndexOutOfBoundsException, IllegalArgumentException, IllegalStateException {
        needHouse(house);
        need(isDay(day) && isWithin(rate, 0, 50) && isWithin(behind, 0, 50) && isWithin(bend, 0, 60));
        House of = book.house(house);
        allow(of.rates.takes(day));
        keep();
        of.tellRule(day, rate, bend, behind);
        return of.rates.many;
    }

    public int terms(int house, int vest, int normal, int early, int late)
            throws IndexOutOfBoundsException, IllegalArgumentException {
        needHouse(house);
        need(isWithin(vest, 0, 20) && isMonth(normal) && isWithin(early, 0, 10) && isWithin(late, 0, 10));
        keep();
        House of = book.house(house);
        int before = of.vest;
        of.vest = vest;
        of.normal = normal;
        of.early = early;
        of.late = late;
        return before;
    }

    public int form(int house, int form, int many, int bound)
            throws IndexOutOfBoundsException, IllegalArgumentException {
        needHouse(house);
        need(isWithin(form, 0, FORMS - 1) && isWithin(many, 1, 10) && isWithin(bound, 0, MOST_BOUND));
        keep();
        House of = book.house(house);
        int before = of.form;
        of.form = form;
        of.many = many;
        of.bound = bound;
        return before;
    }

    public int tie(int house, int other, boolean is) throws IndexOutOfBoundsException, IllegalArgumentException {
        needHouse(house);
        needHouse(other);
        need(house != other);
        keep();
        book.tellTie(house, other, is);
        return Integer.bitCount(book.ties);
    }

    public int marry(int member, int other, int day)
            throws IndexOutOfBoundsException, IllegalArgumentException, IllegalStateException {
        needMember(member);
        needMember(other);
        need(member != other && isDay(day));
        allow(book.marriages < MARRIAGES && book.isFree(member, day) && book.isFree(other, day));
        keep();
        return book.addMarriage(member, other, day);
    }

    public int divide(int marriage, int day, int share)
            throws IndexOutOfBoundsException, IllegalArgumentException, IllegalStateException {
        needMarriage(marriage);
        need(isDay(day) && isWithin(share, 0, 100));
        Marriage of = book.marriage(marriage);
        allow(!of.isDivided() && day > of.from);
        allow(book.canPart(of.member, marriage, day) && book.canPart(of.other, marriage, day));
        keep();
        of.until = day;
        of.share = share;
        return day - of.from;
    }

    public int widows(int house, int part) throws IndexOutOfBoundsException, IllegalArgumentException {
        needHouse(house);
        need(isWithin(part, 0, 100));
        keep();
        House of = book.house(house);
        int before = of.widowPart;
        of.widowPart = part;
        return before;
    }

    public int raise(int house, int floor, int top) throws IndexOutOfBoundsException, IllegalArgumentException {
        needHouse(house);
        need(isWithin(top, 0, 30) && isWithin(floor, -10, top));
        keep();
        House of = book.house(house);
        int before = of.top;
        of.floor = floor;
        of.top = top;
        return before;
    }

    public int bridge(int house, int coins, int age) throws IndexOutOfBoundsException, IllegalArgumentException {
        needHouse(house);
        need(isWithin(coins, 0, 999) && isMonth(age));
        keep();
        House of = book.house(house);
        int before = of.bridge;
        of.bridge = coins;
        of.bridgeAge = age;
        return before;
    }

    public int lessen(int house, int month, int points)
            throws IndexOutOfBoundsException, IllegalArgumentException, IllegalStateException {
        needHouse(house);
        need(isMonth(month) && isWithin(points, -MOST_POINTS, MOST_POINTS));
        Told told = book.house(house).points;
        allow(told.takes(month));
        keep();
        int left = Math.max(0, Math.min(MOST_POINTS, told.valueAt(month, MOST_POINTS) - points));
        told.tell(month, left);
        return left;
    }

    public int annuity(int house, int age, int years)
            throws IndexOutOfBoundsException, IllegalArgumentException, IllegalStateException {
        needHouse(house);
        need(isWithin(age, 0, 99) && isWithin(years, 1, 40));
        Told told = book.house(house).annuities;
        allow(told.takes(age));
        keep();
        int before = told.valueAt(age, FIRST_ANNUITY);
        told.tell(age, years);
        return before;
    }

    public int go(int member, int house, int month, int rank)
            throws IndexOutOfBoundsException, IllegalArgumentException, IllegalStateException {
        needMember(member);
        needHouse(house);
        need(isMonth(month) && isWithin(rank, 0, CLASSES - 1));
        int day = month * MONTH_DAYS;
        allow(book.streams < STREAMS && !book.hasGone(member, house));
        allow(reckoning.ownAhead(member, house, day) && !book.person(member).diedAhead(day));
        keep();
        return book.addStream(member, house, month, rank);
    }

    public int payOut(int stream) throws IndexOutOfBoundsException, IllegalStateException {
        needStream(stream);
        Stream of = book.stream(stream);
        allow(of.payments < PAYMENTS && isMonth(of.nextMonth()));
        keep();
        long mending = 0;
        for (int n = 0; n < of.payments; n++) {
            int now = reckoning.dueOf(of, of.month + n);
            mending += (long) (now - of.bookedFor(n)) * (1000 + book.interest * (of.payments - n));
            of.rebook(n, now);
        }
        int due = reckoning.dueOf(of, of.nextMonth());
        return of.pay(due, due + (int) Math.floorDiv(mending, 1000L));
    }

    public int interest(int rate) throws IllegalArgumentException {
        need(isWithin(rate, 0, 10));
        keep();
        int before = book.interest;
        book.interest = rate;
        return before;
    }

    public int enter(int member, int house) throws IndexOutOfBoundsException {
        needMember(member);
        needHouse(house);
        int wrong = typing.firstFault();
        if (wrong != NONE) {
            return -2 - wrong;
        }
        int from = typing.fromTold();
        int to = typing.toTold();
        int part = typing.partTold();
        if (!isSpell(from, to, part) || !takesSpell(book.person(member), from)) {
            return REFUSED;
        }
        int number = addSpell(member, house, from, to, part, typing.kindTold());
        typing.clear();
        return number;
    }

    // ---- no changes

    public int type(int a, int b, int c, int d, int e, int f)
            throws IllegalArgumentException, IllegalStateException {
        need(isKey(a) && isKey(b) && isKey(c) && isKey(d) && isKey(e) && isKey(f));
        draft.copy(typing);
        allow(draft.press(a) && draft.press(b) && draft.press(c) && draft.press(d) && draft.press(e) && draft.press(f));
        typing.copy(draft);
        return typing.many;
    }

    public int undo() throws IllegalStateException {
        allow(undoable > 0);
        book.copy(bookOf(1));
        nextStep = Math.floorMod(nextStep - 1, STEPS);
        undoable--;
        reckoning.settleAll();
        return undoable;
    }

    public int knock() {
        knocks++;
        return knocks;
    }

    // ---- what is asked of days and wages

    public int has(int member, int house, int day) throws IndexOutOfBoundsException, IllegalArgumentException {
        needMember(member);
        needHouse(house);
        need(isDay(day));
        return reckoning.timeIn(member, house, day, day + 1);
    }

    public int time(int member, int house, int from, int to)
            throws IndexOutOfBoundsException, IllegalArgumentException {
        needMember(member);
        needHouse(house);
        need(isDay(from) && isDay(to) && from <= to);
        return reckoning.timeIn(member, house, from, to + 1);
    }

    public int worked(int member, int house, int month) throws IndexOutOfBoundsException, IllegalArgumentException {
        needMember(member);
        needHouse(house);
        need(isMonth(month));
        return reckoning.workIn(member, house, month * MONTH_DAYS, (month + 1) * MONTH_DAYS);
    }

    public String yearPay(int member, int house, int year, int other)
            throws IndexOutOfBoundsException, IllegalArgumentException {
        needMember(member);
        needHouse(house);
        need(isYear(year) && isYear(other));
        reckoning.setYearPay(answer, member, house, year, other);
        return text(answer);
    }

    public String base(int member, int house, int year) throws IndexOutOfBoundsException, IllegalArgumentException {
        needMember(member);
        needHouse(house);
        need(isYear(year));
        reckoning.setBase(answer, member, house, year);
        return text(answer);
    }

    // ---- what is asked of rights

    public String earned(int member, int house, int day) throws IndexOutOfBoundsException, IllegalArgumentException {
        needMember(member);
        needHouse(house);
        need(isDay(day));
        setEarned(reckoning.earnedAhead(member, house, day));
        return text(answer);
    }

    public boolean isOwn(int member, int house, int day) throws IndexOutOfBoundsException, IllegalArgumentException {
        needMember(member);
        needHouse(house);
        need(isDay(day));
        return reckoning.ownAhead(member, house, day);
    }

    public int factor(int member, int house, int month) throws IndexOutOfBoundsException, IllegalArgumentException {
        needMember(member);
        needHouse(house);
        need(isMonth(month));
        return reckoning.factorIn(member, house, month);
    }

    public String pension(int member, int house, int month)
            throws IndexOutOfBoundsException, IllegalArgumentException {
        setPension(member, house, month, month);
        return text(answer);
    }

    public String face(int member, int house, int month) throws IndexOutOfBoundsException, IllegalArgumentException {
        setPension(member, house, month, month);
        answer.times(100);
        StringBuilder to = new StringBuilder();
        answer.writePointed(to);
        return to.toString();
    }

    public String kept(int member, int house, int month, int at)
            throws IndexOutOfBoundsException, IllegalArgumentException {
        setPension(member, house, month, at);
        reckoning.keepOf(answer, member, house, month, at);
        return text(answer);
    }

    public String given(int member, int other, int house, int month, int at)
            throws IndexOutOfBoundsException, IllegalArgumentException {
        needMember(member);
        needMember(other);
        needHouse(house);
        need(member != other);
        setPension(member, house, month, at);
        reckoning.giveOf(answer, member, other, house, month, at);
        return text(answer);
    }

    public String widow(int member, int house) throws IndexOutOfBoundsException {
        needMember(member);
        needHouse(house);
        reckoning.setWidow(answer, member, house);
        return text(answer);
    }

    // ---- what is asked of levels, values, plans

    public String level(int house, int first, int year) throws IndexOutOfBoundsException, IllegalArgumentException {
        needHouse(house);
        need(isYear(first) && isYear(year) && isWithin(year, first, first + LEVEL_YEARS));
        reckoning.setLevel(answer, house, first, year);
        return text(answer);
    }

    public int ofClass(int house, int rank, int month) throws IndexOutOfBoundsException, IllegalArgumentException {
        needHouse(house);
        needIndex(rank, CLASSES);
        need(isMonth(month));
        return book.house(house).pointsOf(rank, month);
    }

    public String value(int member, int house, int month) throws IndexOutOfBoundsException, IllegalArgumentException {
        setPension(member, house, month, month);
        reckoning.toValue(answer, member, house, month);
        return text(answer);
    }

    public String transferred(int member, int house, int other, int month)
            throws IndexOutOfBoundsException, IllegalArgumentException {
        needHouse(other);
        setPension(member, house, month, month);
        reckoning.toValue(answer, member, house, month);
        reckoning.fromValue(answer, member, other, month);
        return text(answer);
    }

    public String lump(int member, int house, int month, int part)
            throws IndexOutOfBoundsException, IllegalArgumentException {
        needMember(member);
        needHouse(house);
        need(isWithin(part, 0, 100));
        setPension(member, house, month, month);
        second.copy(answer);
        reckoning.toValue(answer, member, house, month);
        answer.times(part);
        answer.over(100);
        second.times(100 - part);
        second.over(100);
        StringBuilder to = new StringBuilder();
        answer.write(to);
        to.append(' ');
        second.write(to);
        return to.toString();
    }

    public int best(int member, int house, int from, int to, int until)
            throws IndexOutOfBoundsException, IllegalArgumentException {
        needMember(member);
        needHouse(house);
        need(isMonth(from) && isMonth(to) && isWithin(to, from, from + BEST_MONTHS));
        need(isMonth(until) && until >= to);
        int found = from;
        second.set(0);
        for (int month = from; month <= to; month++) {
            reckoning.setPension(answer, member, house, month);
            answer.times(until - month);
            if (answer.compare(second) > 0) {
                second.copy(answer);
                found = month;
            }
        }
        return found;
    }

    public String wouldEarn(int member, int house, int from, int to, int part)
            throws IndexOutOfBoundsException, IllegalArgumentException, IllegalStateException {
        needMember(member);
        needHouse(house);
        need(isSpell(from, to, part));
        Person person = book.person(member);
        allow(from >= person.birth);
        sketch.copy(person);
        sketch.add(house, from, to, part, WORK);
        probe.build(sketch);
        setEarned(probe.earnedAhead(book.house(house), house, to + 1));
        return text(answer);
    }

    // ---- what is asked of payments

    public int due(int stream, int month) throws IndexOutOfBoundsException, IllegalArgumentException {
        needStream(stream);
        Stream of = book.stream(stream);
        need(isMonth(month) && isWithin(month, of.month, of.month + DUE_MONTHS));
        return reckoning.dueOf(of, month);
    }

    public int paid(int stream, int nth) throws IndexOutOfBoundsException {
        needStream(stream);
        Stream of = book.stream(stream);
        needIndex(nth, of.payments);
        return at(of.paid, nth);
    }

    public int ofStream(int stream, int what) throws IndexOutOfBoundsException, IllegalArgumentException {
        needStream(stream);
        need(isWithin(what, 0, 7));
        return book.stream(stream).tell(what);
    }

    // ---- what there is

    public String line(int member, int nth) throws IndexOutOfBoundsException {
        needSpell(member, nth);
        draft.setLine(book.person(member), nth);
        return textOf(draft);
    }

    public int ofMember(int member, int what) throws IndexOutOfBoundsException, IllegalArgumentException {
        needMember(member);
        need(isWithin(what, 0, 4));
        Person person = book.person(member);
        switch (what) {
            case 0:
                return person.birth;
            case 1:
                return person.death;
            case 2:
                return person.spells;
            case 3:
                return book.lastMarriage(member);
            default:
                return book.streamsOf(member);
        }
    }

    public int ofMarriage(int marriage, int what) throws IndexOutOfBoundsException, IllegalArgumentException {
        needMarriage(marriage);
        need(isWithin(what, 0, 4));
        return book.marriage(marriage).tell(what);
    }

    public int ofHouse(int house, int what) throws IndexOutOfBoundsException, IllegalArgumentException {
        needHouse(house);
        need(isWithin(what, 0, 10));
        return what == 10 ? book.tiedTo(house) : book.house(house).tell(what);
    }

    public String then(int back, int member, int house, int day)
            throws IllegalArgumentException, IllegalStateException, IndexOutOfBoundsException {
        need(isWithin(back, 0, STEPS) && isDay(day));
        allow(back <= undoable);
        Book old = bookOf(back);
        needIndex(member, old.members);
        needHouse(house);
        probe.build(old.person(member));
        setEarned(probe.earnedAhead(old.house(house), house, day));
        return text(answer);
    }

    public String typed() {
        return textOf(typing);
    }

    public int fault() {
        return typing.firstFault();
    }

    public int count(int what) throws IllegalArgumentException {
        need(isWithin(what, 0, 8));
        switch (what) {
            case 0:
                return book.members;
            case 1:
                return book.marriages;
            case 2:
                return book.streams;
            case 3:
                return undoable;
            case 4:
                return book.interest;
            case 5:
                return typing.many;
            case 6:
                return knocks;
            case 7:
                return book.prices.many;
            default:
                return book.paidToAll();
        }
    }

    // ---- the whole

    public boolean isSound() {
        for (int m = 0; m < book.members; m++) {
            if (!areDaysSound(m) || !areLinesSound(book.person(m))) {
                return false;
            }
            for (int month = 300; month <= 900; month += 300) {
                if (!areSharesSound(m, month) || !areTransfersSound(m, month)) {
                    return false;
                }
            }
        }
        for (int h = 0; h < HOUSES; h++) {
            if (!areLevelsSound(h) || !areClassesSound(book.house(h))) {
                return false;
            }
        }
        for (int s = 0; s < book.streams; s++) {
            if (book.stream(s).carry > 0) {
                return false;
            }
        }
        return true;
    }

    public long digest() {
        long d = 6553;
        for (int what = 0; what <= 8; what++) {
            d = d * 31 + count(what);
        }
        for (int m = 0; m < book.members; m++) {
            d = digestMember(d, m);
            for (int h = 0; h < HOUSES; h++) {
                d = digestRights(d, m, h);
            }
        }
        for (int w = 0; w < book.marriages; w++) {
            for (int what = 0; what <= 4; what++) {
                d = d * 31 + book.marriage(w).tell(what);
            }
        }
        for (int h = 0; h < HOUSES; h++) {
            d = digestHouse(d, h);
        }
        for (int s = 0; s < book.streams; s++) {
            Stream of = book.stream(s);
            for (int what = 0; what <= 7; what++) {
                d = d * 31 + of.tell(what);
            }
            d = d * 31 + reckoning.dueOf(of, of.month);
        }
        d = d * 31 + fault();
        return d * 31 + (isSound() ? 1 : 0);
    }

    private long digestMember(long start, int member) {
        long d = start;
        for (int what = 0; what <= 4; what++) {
            d = d * 31 + ofMember(member, what);
        }
        Person person = book.person(member);
        for (int n = 0; n < person.spells; n++) {
            draft.setLine(person, n);
            d = d * 31 + draft.many;
        }
        return d;
    }

    // The lengths are reckoned without making the texts: those of many calls would fill the room.
    private long digestRights(long start, int member, int house) {
        long d = start * 31 + reckoning.timeIn(member, house, 0, DAYS);
        setEarned(reckoning.earnedAhead(member, house, DAYS - 1));
        d = d * 31 + answer.signs();
        reckoning.setBase(answer, member, house, 60);
        d = d * 31 + answer.signs();
        reckoning.setPension(answer, member, house, 720);
        d = d * 31 + answer.signs();
        d = d * 31 + (reckoning.ownAhead(member, house, 3000) ? 1 : 0);
        d = d * 31 + reckoning.factorIn(member, house, 700);
        reckoning.setWidow(answer, member, house);
        return d * 31 + answer.signs();
    }

    private long digestHouse(long start, int house) {
        long d = start;
        for (int what = 0; what <= 10; what++) {
            d = d * 31 + ofHouse(house, what);
        }
        reckoning.setLevel(answer, house, 40, 50);
        d = d * 31 + answer.signs();
        for (int rank = 0; rank < CLASSES; rank++) {
            d = d * 31 + book.house(house).pointsOf(rank, 720);
        }
        return d;
    }

    // ---- what isSound() looks at

    // On the days of a stretch it has the same, so one look is enough; what is earned there goes day by day.
    private boolean areDaysSound(int member) {
        Person person = book.person(member);
        Parts days = reckoning.parts(member);
        Arrays.fill(timeSums, 0);
        Arrays.fill(earnedSums, 0);
        for (int k = 0; k < days.many; k++) {
            probe.look(person, days.startOf(k));
            int together = 0;
            for (int h = 0; h < HOUSES; h++) {
                together += probe.hasToday(h);
                sumDays(h, probe.hasToday(h), days.startOf(k), days.startOf(k + 1));
            }
            if (together > 100) {
                return false;
            }
        }
        for (int h = 0; h < HOUSES; h++) {
            boolean time = at(timeSums, h) == reckoning.timeIn(member, h, 0, DAYS);
            if (!time || at(earnedSums, h) != reckoning.earnedAhead(member, h, DAYS - 1)) {
                return false;
            }
        }
        return true;
    }

    /** Adds to the sums of a house the days from one on till another one, on which it has as much. */
    private void sumDays(int house, int has, int from, int end) {
        House of = book.house(house);
        int time = at(timeSums, house);
        int units = at(earnedSums, house);
        for (int day = from; has > 0 && day < end; day++) {
            units += day < DAYS - 1 ? has * of.rateOn(day, time) : 0;
            time += has;
        }
        put(timeSums, house, time);
        put(earnedSums, house, units);
    }

    /** Whether what is KEPT of each PENSION and what is GIVEN of it are together the whole. */
    private boolean areSharesSound(int member, int month) {
        for (int h = 0; h < HOUSES; h++) {
            reckoning.setPension(answer, member, h, month);
            second.copy(answer);
            reckoning.keepOf(second, member, h, month, month);
            for (int other = 0; other < book.members; other++) {
                if (other != member) {
                    third.copy(answer);
                    reckoning.giveOf(third, member, other, h, month, month);
                    second.add(third);
                }
            }
            if (second.compare(answer) != 0) {
                return false;
            }
        }
        return true;
    }

    /** Whether each VALUE is the same again behind each transfer. */
    private boolean areTransfersSound(int member, int month) {
        for (int h = 0; h < HOUSES; h++) {
            reckoning.setPension(answer, member, h, month);
            reckoning.toValue(answer, member, h, month);
            for (int other = 0; other < HOUSES; other++) {
                second.copy(answer);
                reckoning.fromValue(second, member, other, month);
                reckoning.toValue(second, member, other, month);
                if (second.compare(answer) != 0) {
                    return false;
                }
            }
        }
        return true;
    }

    private boolean areLinesSound(Person person) {
        for (int n = 0; n < person.spells; n++) {
            draft.setLine(person, n);
            if (draft.firstFault() != NONE || !draft.isLineOf(person, n)) {
                return false;
            }
        }
        return true;
    }

    private boolean areLevelsSound(int house) {
        House of = book.house(house);
        for (int first = 0; first <= 60; first += 20) {
            answer.set(1);
            for (int year = first + 1; year <= first + LEVEL_YEARS; year++) {
                second.copy(answer);
                third.copy(answer);
                reckoning.nextLevel(answer, house, first, year);
                second.toHundredths(100 + of.top);
                third.toHundredths(100 + of.floor);
                if (answer.compare(second) > 0 || answer.compare(third) < 0) {
                    return false;
                }
            }
        }
        return true;
    }

    private boolean areClassesSound(House house) {
        for (int i = 0; i < CLASSES; i++) {
            int month = i == 0 ? 0 : i == 1 ? 600 : MONTHS - 1;
            for (int rank = 1; rank < CLASSES; rank++) {
                if (house.pointsOf(rank, month) > house.pointsOf(rank - 1, month)) {
                    return false;
                }
            }
        }
        return true;
    }

    // ---- what the calls share

    private void needMember(int member) {
        needIndex(member, book.members);
    }

    private void needSpell(int member, int nth) {
        needIndex(member, book.members);
        needIndex(nth, book.person(member).spells);
    }

    private void needMarriage(int marriage) {
        needIndex(marriage, book.marriages);
    }

    private void needStream(int stream) {
        needIndex(stream, book.streams);
    }

    private static void needHouse(int house) {
        needIndex(house, HOUSES);
    }

    private static void needIndex(int index, int many) {
        if (index < 0 || index >= many) {
            throw new IndexOutOfBoundsException("there is no such one");
        }
    }

    private static void need(boolean right) {
        if (!right) {
            throw new IllegalArgumentException("this can not be told or asked");
        }
    }

    private static void allow(boolean can) {
        if (!can) {
            throw new IllegalStateException("this can not be now");
        }
    }

    private static boolean isWithin(int number, int least, int most) {
        return number >= least && number <= most;
    }

    private static boolean isDay(int day) {
        return isWithin(day, 0, DAYS - 1);
    }

    private static boolean isMonth(int month) {
        return isWithin(month, 0, MONTHS - 1);
    }

    private static boolean isYear(int year) {
        return isWithin(year, 0, YEARS - 1);
    }

    private static boolean isKey(int key) {
        return isWithin(key, NONE, SIGN_CLEAR);
    }

    private static boolean isSpell(int from, int to, int part) {
        return isDay(from) && isDay(to) && from <= to && isWithin(part, 1, 100);
    }

    private static boolean takesSpell(Person person, int from) {
        return from >= person.birth && person.spells < SPELLS;
    }

    private int addSpell(int member, int house, int from, int to, int part, int kind) {
        keep();
        Person person = book.person(member);
        person.add(house, from, to, part, kind);
        reckoning.settle(member);
        return person.spells - 1;
    }

    /** Keeps the book as it is, ahead of a change. */
    private void keep() {
        if (nextStep >= 0 && nextStep < past.length) {
            past[nextStep].copy(book);
        }
        nextStep = Math.floorMod(nextStep + 1, STEPS);
        undoable = Math.min(undoable + 1, STEPS);
    }

    /** The book as it was so many changes ago. */
    private Book bookOf(int back) {
        int step = Math.floorMod(nextStep - back, STEPS);
        return back == 0 || step < 0 || step >= past.length ? book : past[step];
    }

    private void setEarned(int units) {
        answer.set(units);
        answer.over(EARNED_UNITS);
    }

    /** Looks at what is asked; the PENSION by going in the month then stands in the answer. */
    private void setPension(int member, int house, int month, int at) {
        needMember(member);
        needHouse(house);
        need(isMonth(month) && isMonth(at));
        reckoning.setPension(answer, member, house, month);
    }

    private static String text(Amount amount) {
        StringBuilder to = new StringBuilder();
        amount.write(to);
        return to.toString();
    }

    private static String textOf(Signs signs) {
        StringBuilder to = new StringBuilder();
        signs.write(to);
        return to.toString();
    }

    private static int at(int[] row, int place) {
        return place >= 0 && place < row.length ? row[place] : 0;
    }

    private static void put(int[] row, int place, int number) {
        if (place >= 0 && place < row.length) {
            row[place] = number;
        }
    }

    /** What is told from beginnings on, in the order of these, whenever it was told. */
    private static final class Told {
        final int[] starts;
        final int[] values;
        int many;

        Told(int most) {
            starts = new int[Math.max(0, most)];
            values = new int[Math.max(0, most)];
        }

        void copy(Told other) {
            many = other.many;
            for (int i = 0; i < many; i++) {
                put(starts, i, at(other.starts, i));
                put(values, i, at(other.values, i));
            }
        }

        void clear() {
            many = 0;
        }

        /** The place of the last beginning that is not behind the moment, or NONE. */
        int placeOf(int moment) {
            int place = NONE;
            for (int i = 0; i < many && i < starts.length && starts[i] <= moment; i++) {
                place = i;
            }
            return place;
        }

        int valueAt(int moment, int first) {
            int place = placeOf(moment);
            return place == NONE ? first : at(values, place);
        }

        int startOf(int place) {
            return place >= 0 && place < starts.length ? starts[place] : 0;
        }

        int endOf(int place, int last) {
            return place >= 0 && place + 1 < many && place + 1 < starts.length ? starts[place + 1] : last;
        }

        int numberAt(int place) {
            return place >= 0 && place < values.length ? values[place] : 0;
        }

        private boolean beginsAt(int start) {
            int place = placeOf(start);
            return place != NONE && at(starts, place) == start;
        }

        boolean takes(int start) {
            return many < starts.length || beginsAt(start);
        }

        void tell(int start, int value) {
            int place = placeOf(start);
            if (beginsAt(start)) {
                put(values, place, value);
                return;
            }
            if (many >= starts.length) {
                return;
            }
            for (int i = many; i > place + 1; i--) {
                put(starts, i, at(starts, i - 1));
                put(values, i, at(values, i - 1));
            }
            put(starts, place + 1, start);
            put(values, place + 1, value);
            many++;
        }

        /** Puts what holds at each moment into a row. */
        void spread(int[] row, int first) {
            int value = first;
            int next = 0;
            for (int moment = 0; moment < row.length; moment++) {
                if (next < many && at(starts, next) == moment) {
                    value = at(values, next);
                    next++;
                }
                row[moment] = value;
            }
        }
    }

    private static final class Person {
        // One place more than a member may fill: for the spell that only would come.
        static final int MOST = SPELLS + 1;
        static final int NUMBERS = 5;
        int birth;
        int death = NONE;
        int spells;
        final int[] lines = new int[MOST * NUMBERS];
        final Told[] wages = new Told[HOUSES];

        Person() {
            for (int h = 0; h < wages.length; h++) {
                wages[h] = new Told(WAGES_TOLD);
            }
        }

        void clear(int newBirth) {
            birth = newBirth;
            death = NONE;
            spells = 0;
            for (int h = 0; h < HOUSES; h++) {
                wagesAt(h).clear();
            }
        }

        void copy(Person other) {
            birth = other.birth;
            death = other.death;
            spells = other.spells;
            for (int i = 0; i < spells * NUMBERS; i++) {
                put(lines, i, at(other.lines, i));
            }
            for (int h = 0; h < HOUSES; h++) {
                wagesAt(h).copy(other.wagesAt(h));
            }
        }

        Told wagesAt(int house) {
            return house > 0 && house < wages.length ? wages[house] : wages[0];
        }

        int houseOf(int nth) {
            return at(lines, nth * NUMBERS);
        }

        int fromOf(int nth) {
            return at(lines, nth * NUMBERS + 1);
        }

        int toOf(int nth) {
            return at(lines, nth * NUMBERS + 2);
        }

        int partOf(int nth) {
            return at(lines, nth * NUMBERS + 3);
        }

        int kindOf(int nth) {
            return at(lines, nth * NUMBERS + 4);
        }

        void add(int house, int from, int to, int part, int kind) {
            if (spells < MOST) {
                int place = spells * NUMBERS;
                put(lines, place, house);
                put(lines, place + 1, from);
                put(lines, place + 2, to);
                put(lines, place + 3, part);
                put(lines, place + 4, kind);
                spells++;
            }
        }

        void endAt(int nth, int day) {
            put(lines, nth * NUMBERS + 2, day);
        }

        void remove(int nth) {
            for (int i = nth * NUMBERS; i + NUMBERS < spells * NUMBERS; i++) {
                put(lines, i, at(lines, i + NUMBERS));
            }
            spells = Math.max(0, spells - 1);
        }

        boolean diedAhead(int day) {
            return death != NONE && death < day;
        }

        int ageIn(int month) {
            return month - birth / MONTH_DAYS;
        }
    }

    private static final class House {
        int vest = 2;
        int normal = 720;
        int early = 3;
        int late = 5;
        int form = BEST;
        int many = 3;
        int bound = MOST_BOUND;
        int widowPart = 60;
        int floor;
        int top = 5;
        int bridge;
        int bridgeAge = 720;
        // A rule is three numbers with the same beginning.
        final Told rates = new Told(RULES_TOLD);
        final Told bends = new Told(RULES_TOLD);
        final Told behinds = new Told(RULES_TOLD);
        final Told points = new Told(POINTS_TOLD);
        final Told annuities = new Told(ANNUITIES_TOLD);

        House() {
            rates.tell(0, 20);
            bends.tell(0, 30);
            behinds.tell(0, 10);
        }

        void copy(House other) {
            vest = other.vest;
            normal = other.normal;
            early = other.early;
            late = other.late;
            form = other.form;
            many = other.many;
            bound = other.bound;
            widowPart = other.widowPart;
            floor = other.floor;
            top = other.top;
            bridge = other.bridge;
            bridgeAge = other.bridgeAge;
            rates.copy(other.rates);
            bends.copy(other.bends);
            behinds.copy(other.behinds);
            points.copy(other.points);
            annuities.copy(other.annuities);
        }

        void tellRule(int day, int rate, int bend, int behind) {
            rates.tell(day, rate);
            bends.tell(day, bend);
            behinds.tell(day, behind);
        }

        /** The rate of a day with so much time ahead of it. */
        int rateOn(int day, int ahead) {
            int place = rates.placeOf(day);
            return ahead < bends.numberAt(place) * YEAR_TIME ? rates.numberAt(place) : behinds.numberAt(place);
        }

        int pointsOf(int rank, int month) {
            return Math.max(0, Math.min(100, points.valueAt(month, MOST_POINTS) - 100 * rank));
        }

        int annuityOf(int age) {
            return annuities.valueAt(Math.max(0, age / YEAR_MONTHS), FIRST_ANNUITY);
        }

        int tell(int what) {
            switch (what) {
                case 0:
                    return rates.many;
                case 1:
                    return vest;
                case 2:
                    return normal;
                case 3:
                    return form;
                case 4:
                    return widowPart;
                case 5:
                    return floor;
                case 6:
                    return top;
                case 7:
                    return bridge;
                case 8:
                    return points.many;
                default:
                    return annuities.many;
            }
        }
    }

    private static final class Marriage {
        int member;
        int other;
        int from;
        int until = NONE;
        int share = NONE;

        void copy(Marriage one) {
            member = one.member;
            other = one.other;
            from = one.from;
            until = one.until;
            share = one.share;
        }

        void begin(int first, int second, int day) {
            member = first;
            other = second;
            from = day;
            until = NONE;
            share = NONE;
        }

        boolean isDivided() {
            return until != NONE;
        }

        boolean isOf(int one) {
            return member == one || other == one;
        }

        int spouseOf(int one) {
            return member == one ? other : member;
        }

        int tell(int what) {
            switch (what) {
                case 0:
                    return member;
                case 1:
                    return other;
                case 2:
                    return from;
                case 3:
                    return until;
                default:
                    return share;
            }
        }
    }

    private static final class Stream {
        int member;
        int house;
        int month;
        int rank;
        int payments;
        int carry;
        final int[] paid = new int[PAYMENTS];
        final int[] booked = new int[PAYMENTS];

        void copy(Stream one) {
            begin(one.member, one.house, one.month, one.rank);
            payments = one.payments;
            carry = one.carry;
            for (int n = 0; n < payments; n++) {
                put(paid, n, at(one.paid, n));
                put(booked, n, at(one.booked, n));
            }
        }

        void begin(int who, int where, int when, int which) {
            member = who;
            house = where;
            month = when;
            rank = which;
            payments = 0;
            carry = 0;
        }

        int nextMonth() {
            return month + payments;
        }

        int bookedFor(int nth) {
            return at(booked, nth);
        }

        void rebook(int nth, int due) {
            put(booked, nth, due);
        }

        /** Books what is due for the next month; of what comes to it in all, and the carry, pays what is above 0. */
        int pay(int due, int coming) {
            int all = coming + carry;
            int coins = Math.max(0, all);
            put(booked, payments, due);
            put(paid, payments, coins);
            payments++;
            carry = Math.min(0, all);
            return coins;
        }

        private int sum(int[] row) {
            int sum = 0;
            for (int n = 0; n < payments; n++) {
                sum += at(row, n);
            }
            return sum;
        }

        int tell(int what) {
            switch (what) {
                case 0:
                    return member;
                case 1:
                    return house;
                case 2:
                    return month;
                case 3:
                    return rank;
                case 4:
                    return payments;
                case 5:
                    return sum(paid);
                case 6:
                    return carry;
                default:
                    return sum(booked);
            }
        }
    }

    /** All that is told and can be undone. */
    private static final class Book {
        int members;
        int marriages;
        int streams;
        int ties;
        int interest;
        final Person[] persons = new Person[MEMBERS];
        final House[] houses = new House[HOUSES];
        final Marriage[] unions = new Marriage[MARRIAGES];
        final Stream[] flows = new Stream[STREAMS];
        final Told prices = new Told(PRICES_TOLD);

        Book() {
            for (int i = 0; i < persons.length; i++) {
                persons[i] = new Person();
            }
            for (int i = 0; i < houses.length; i++) {
                houses[i] = new House();
            }
            for (int i = 0; i < unions.length; i++) {
                unions[i] = new Marriage();
            }
            for (int i = 0; i < flows.length; i++) {
                flows[i] = new Stream();
            }
        }

        void copy(Book other) {
            members = other.members;
            marriages = other.marriages;
            streams = other.streams;
            ties = other.ties;
            interest = other.interest;
            prices.copy(other.prices);
            for (int m = 0; m < members; m++) {
                person(m).copy(other.person(m));
            }
            for (int h = 0; h < HOUSES; h++) {
                house(h).copy(other.house(h));
            }
            for (int w = 0; w < marriages; w++) {
                marriage(w).copy(other.marriage(w));
            }
            for (int s = 0; s < streams; s++) {
                stream(s).copy(other.stream(s));
            }
        }

        Person person(int number) {
            return number > 0 && number < persons.length ? persons[number] : persons[0];
        }

        House house(int number) {
            return number > 0 && number < houses.length ? houses[number] : houses[0];
        }

        Marriage marriage(int number) {
            return number > 0 && number < unions.length ? unions[number] : unions[0];
        }

        Stream stream(int number) {
            return number > 0 && number < flows.length ? flows[number] : flows[0];
        }

        int addMember(int birth) {
            person(members).clear(birth);
            members++;
            return members - 1;
        }

        int addMarriage(int member, int other, int day) {
            marriage(marriages).begin(member, other, day);
            marriages++;
            return marriages - 1;
        }

        int addStream(int member, int house, int month, int rank) {
            stream(streams).begin(member, house, month, rank);
            streams++;
            return streams - 1;
        }

        // Of two of three houses the sum of their numbers, less 1, tells which two they are.
        private static int pairOf(int house, int other) {
            return 1 << (house + other - 1);
        }

        void tellTie(int house, int other, boolean is) {
            int pair = pairOf(house, other);
            ties = is ? ties | pair : ties & ~pair;
        }

        /** The set of the houses that are tied to a house, with itself; two pairs of three houses tie all. */
        int tiedTo(int house) {
            int set = 1 << house;
            for (int other = 0; other < HOUSES; other++) {
                boolean told = other != house && (ties & pairOf(house, other)) != 0;
                if (told || Integer.bitCount(ties) > 1) {
                    set |= 1 << other;
                }
            }
            return set;
        }

        /** Whether no death and no other marriage forbids a member to marry on a day. */
        boolean isFree(int member, int day) {
            for (int w = 0; w < marriages; w++) {
                Marriage one = marriage(w);
                if (one.isOf(member)) {
                    boolean over = one.isDivided() ? one.until <= day : person(one.spouseOf(member)).diedAhead(day);
                    if (!over) {
                        return false;
                    }
                }
            }
            return !person(member).diedAhead(day);
        }

        /** Whether no death and no later marriage forbids a member to end a marriage on a day. */
        boolean canPart(int member, int marriage, int day) {
            for (int w = marriage + 1; w < marriages; w++) {
                if (marriage(w).isOf(member) && marriage(w).from < day) {
                    return false;
                }
            }
            return !person(member).diedAhead(day);
        }

        int lastMarriage(int member) {
            int last = NONE;
            for (int w = 0; w < marriages; w++) {
                if (marriage(w).isOf(member)) {
                    last = w;
                }
            }
            return last;
        }

        boolean hasGone(int member, int house) {
            for (int s = 0; s < streams; s++) {
                if (stream(s).member == member && stream(s).house == house) {
                    return true;
                }
            }
            return false;
        }

        int streamsOf(int member) {
            int many = 0;
            for (int s = 0; s < streams; s++) {
                many += stream(s).member == member ? 1 : 0;
            }
            return many;
        }

        int paidToAll() {
            int sum = 0;
            for (int s = 0; s < streams; s++) {
                sum += stream(s).tell(5);
            }
            return sum;
        }
    }

    /** The days of a member, cut into stretches on which all that it has and works stays as it is. */
    private static final class Parts {
        // The first day, both ends of each spell, and the death can begin a stretch.
        static final int MOST = 2 * Person.MOST + 2;
        final int[] starts = new int[MOST];
        final int[] had = new int[MOST * HOUSES];
        final int[] labour = new int[MOST * HOUSES];
        final int[] rawToday = new int[HOUSES];
        final int[] workToday = new int[HOUSES];
        final int[] gapToday = new int[HOUSES];
        final int[] haveToday = new int[HOUSES];
        int many;

        void build(Person person) {
            many = 0;
            startAt(0);
            if (person.death != NONE) {
                startAt(person.death + 1);
            }
            for (int n = 0; n < person.spells; n++) {
                startAt(person.fromOf(n));
                startAt(person.toOf(n) + 1);
            }
            for (int k = 0; k < many; k++) {
                look(person, at(starts, k));
                for (int h = 0; h < HOUSES; h++) {
                    put(had, k * HOUSES + h, hasToday(h));
                    put(labour, k * HOUSES + h, Math.min(hasToday(h), at(workToday, h)));
                }
            }
        }

        /** A stretch starts on a day, if there is such a day, and none starts there yet. */
        private void startAt(int day) {
            int place = 0;
            while (place < many && at(starts, place) < day) {
                place++;
            }
            boolean known = place < many && at(starts, place) == day;
            if (known || day >= DAYS || many >= MOST) {
                return;
            }
            for (int k = many; k > place; k--) {
                put(starts, k, at(starts, k - 1));
            }
            put(starts, place, day);
            many++;
        }

        /** Looks at one day of a member. */
        void look(Person person, int day) {
            Arrays.fill(rawToday, 0);
            Arrays.fill(workToday, 0);
            Arrays.fill(gapToday, 0);
            for (int n = 0; n < person.spells; n++) {
                if (person.fromOf(n) <= day && day <= person.toOf(n)) {
                    note(person.houseOf(n), person.partOf(n), person.kindOf(n));
                }
            }
            int left = person.diedAhead(day) ? 0 : 100;
            for (int h = 0; h < HOUSES; h++) {
                int has = at(gapToday, h) == 1 ? 0 : Math.min(left, at(rawToday, h));
                put(haveToday, h, has);
                left -= has;
            }
        }

        private void note(int house, int part, int kind) {
            if (kind == GAP) {
                put(gapToday, house, 1);
                return;
            }
            put(rawToday, house, Math.max(part, at(rawToday, house)));
            if (kind == WORK) {
                put(workToday, house, Math.max(part, at(workToday, house)));
            }
        }

        int hasToday(int house) {
            return at(haveToday, house);
        }

        int startOf(int stretch) {
            return stretch >= 0 && stretch < many && stretch < starts.length ? starts[stretch] : DAYS;
        }

        int workOf(int stretch, int house) {
            return at(labour, stretch * HOUSES + house);
        }

        /** What it has, or has worked, on the days from one on till another one begins, together. */
        int sumOf(int[] row, int house, int from, int end) {
            int sum = 0;
            for (int k = 0; k < many; k++) {
                int days = Math.min(end, startOf(k + 1)) - Math.max(from, startOf(k));
                sum += Math.max(0, days) * at(row, k * HOUSES + house);
            }
            return sum;
        }

        /** What is earned ahead of a day, in units of which EARNED_UNITS are 1. */
        int earnedAhead(House of, int house, int day) {
            int units = 0;
            int ahead = 0;
            for (int k = 0; k < many; k++) {
                int has = at(had, k * HOUSES + house);
                for (int r = 0; has > 0 && r < of.rates.many; r++) {
                    int from = Math.max(startOf(k), of.rates.startOf(r));
                    int end = Math.min(startOf(k + 1), of.rates.endOf(r, DAYS));
                    int days = Math.max(0, Math.min(day, end) - from);
                    int early = daysBelow(of.bends.numberAt(r) * YEAR_TIME - ahead, has, days);
                    units += has * (early * of.rates.numberAt(r) + (days - early) * of.behinds.numberAt(r));
                    ahead += has * days;
                }
            }
            return units;
        }

        /** On how many of some days, at so much a day, the time ahead does not yet fill what is left. */
        private static int daysBelow(int left, int has, int days) {
            return left <= 0 || has <= 0 ? 0 : Math.min(days, (left + has - 1) / has);
        }
    }

    /** A row of signs that is a line, or is to become one. */
    private static final class Signs {
        final int[] row = new int[SIGNS_TYPED];
        int many;

        void clear() {
            many = 0;
        }

        void copy(Signs other) {
            many = other.many;
            for (int i = 0; i < many; i++) {
                put(row, i, at(other.row, i));
            }
        }

        /** Presses a key; tells whether there was room. */
        boolean press(int key) {
            if (key == SIGN_BACK) {
                many = Math.max(0, many - 1);
            } else if (key == SIGN_CLEAR) {
                many = 0;
            } else if (key != NONE) {
                if (many >= SIGNS_TYPED) {
                    return false;
                }
                put(row, many, key);
                many++;
            }
            return true;
        }

        void setLine(Person person, int nth) {
            many = 0;
            pressNumber(person.fromOf(nth));
            press(DASH);
            pressNumber(person.toOf(nth));
            press(COLON);
            pressNumber(person.partOf(nth));
            press(FIRST_LETTER + person.kindOf(nth));
        }

        private void pressNumber(int number) {
            for (int unit = 1000; unit > 0; unit /= 10) {
                if (number >= unit || unit == 1) {
                    press(number / unit % 10);
                }
            }
        }

        boolean isLineOf(Person person, int nth) {
            return fromTold() == person.fromOf(nth) && toTold() == person.toOf(nth)
                && partTold() == person.partOf(nth) && kindTold() == person.kindOf(nth);
        }

        int firstFault() {
            int field = 0;
            int digits = 0;
            for (int i = 0; i < many; i++) {
                int sign = at(row, i);
                if (sign < DASH) {
                    digits++;
                    if (field > 2 || digits > (field == 2 ? 3 : 4)) {
                        return i;
                    }
                } else {
                    if (digits == 0 || field != fieldEndedBy(sign)) {
                        return i;
                    }
                    field++;
                    digits = 0;
                }
            }
            return field == 3 ? NONE : many;
        }

        private static int fieldEndedBy(int sign) {
            return sign == DASH ? 0 : sign == COLON ? 1 : 2;
        }

        // What follows is asked of lines without fault alone.

        int fromTold() {
            return numberTold(0);
        }

        int toTold() {
            return numberTold(1);
        }

        int partTold() {
            return numberTold(2);
        }

        int kindTold() {
            return at(row, many - 1) - FIRST_LETTER;
        }

        private int numberTold(int which) {
            int field = 0;
            int number = 0;
            for (int i = 0; i < many; i++) {
                int sign = at(row, i);
                if (sign >= DASH) {
                    field++;
                } else if (field == which) {
                    number = number * 10 + sign;
                }
            }
            return number;
        }

        void write(StringBuilder to) {
            for (int i = 0; i < many; i++) {
                int sign = at(row, i);
                if (sign >= 0 && sign < SIGNS.length()) {
                    to.append(SIGNS.charAt(sign));
                }
            }
        }
    }

    /** A whole number from 0 on, of many digits, nine of them a limb. */
    private static final class Big {
        static final int LIMB = 1000000000;
        static final int LIMB_DIGITS = 9;
        // The greatest numbers that can come, in adding and comparing, have some 170 digits.
        static final int MOST = 48;
        final int[] limbs = new int[MOST];
        int size;

        void set(long number) {
            size = 0;
            for (long left = number; left > 0 && size >= 0 && size < limbs.length; left /= LIMB) {
                limbs[size] = (int) (left % LIMB);
                size++;
            }
        }

        void copy(Big other) {
            size = other.size;
            System.arraycopy(other.limbs, 0, limbs, 0, MOST);
        }

        boolean isOne() {
            return size == 1 && limbs[0] == 1;
        }

        /** Times a number of at most nine digits and a half: limb and carry together stay in a long. */
        void times(long by) {
            long carry = 0;
            for (int i = 0; i < limbs.length && (i < size || carry > 0); i++) {
                long x = (i < size ? limbs[i] * by : 0) + carry;
                limbs[i] = (int) (x % LIMB);
                carry = x / LIMB;
                size = Math.max(size, i + 1);
            }
            size = by == 0 ? 0 : size;
        }

        /** Adds another number, times a limb, moved up by some limbs (no more than there are). */
        void add(Big other, int by, int moved) {
            long carry = 0;
            int end = moved + other.size;
            for (int i = Math.max(0, moved); i < limbs.length && (i < end || carry > 0); i++) {
                int place = i - moved;
                long x = (i < size ? limbs[i] : 0) + carry;
                x += place >= 0 && place < other.size && place < other.limbs.length ? (long) other.limbs[place] * by : 0;
                limbs[i] = (int) (x % LIMB);
                carry = x / LIMB;
                size = Math.max(size, i + 1);
            }
        }

        /** Becomes the product of two others. */
        void setProduct(Big one, Big other) {
            size = 0;
            for (int i = 0; one.size > 0 && i < other.size; i++) {
                add(one, at(other.limbs, i), i);
            }
        }

        int mod(int by) {
            long rest = 0;
            for (int i = Math.min(size, limbs.length) - 1; by > 0 && i >= 0; i--) {
                rest = (rest * LIMB + limbs[i]) % by;
            }
            return (int) rest;
        }

        /** Over a number, rounded down. */
        void shrink(int by) {
            long rest = 0;
            for (int i = Math.min(size, limbs.length) - 1; by > 0 && i >= 0; i--) {
                long x = rest * LIMB + limbs[i];
                limbs[i] = (int) (x / by);
                rest = x % by;
            }
            while (size > 0 && size <= limbs.length && limbs[size - 1] == 0) {
                size--;
            }
        }

        int compare(Big other) {
            if (size != other.size) {
                return size < other.size ? -1 : 1;
            }
            for (int i = Math.min(size, limbs.length) - 1; i >= 0 && i < other.limbs.length; i--) {
                if (limbs[i] != other.limbs[i]) {
                    return limbs[i] < other.limbs[i] ? -1 : 1;
                }
            }
            return 0;
        }

        /** The number, or what it may be at most (less than a limb). */
        int atMost(int most) {
            return size > 1 ? most : size == 1 ? Math.min(most, limbs[0]) : 0;
        }

        int digits() {
            int digits = Math.max(0, size - 1) * LIMB_DIGITS + 1;
            for (int left = at(limbs, size - 1) / 10; left > 0; left /= 10) {
                digits++;
            }
            return digits;
        }

        void write(StringBuilder to) {
            to.append(at(limbs, size - 1));
            for (int i = size - 2; i >= 0; i--) {
                int limb = at(limbs, i);
                for (int unit = LIMB / 10; unit > 0; unit /= 10) {
                    to.append((char) ('0' + limb / unit % 10));
                }
            }
        }
    }

    /**
     * A fraction from 0 on, always in lowest terms. What stands below is kept as a row of factors:
     * they come as small numbers, and so no great number is ever divided by a great one. None below
     * 0 ever comes: the days of divided marriages of a member never overlap, so at most all is given.
     */
    private static final class Amount {
        static final int MOST = 64;
        static final int MOST_FACTOR = 2147483647;
        final Big top = new Big();
        final int[] below = new int[MOST];
        int factors;
        final Big mine = new Big();
        final Big theirs = new Big();

        void set(long whole) {
            top.set(whole);
            factors = 0;
        }

        void copy(Amount other) {
            top.copy(other.top);
            factors = other.factors;
            System.arraycopy(other.below, 0, below, 0, MOST);
        }

        void times(long by) {
            long left = by;
            for (int i = 0; i < factors; i++) {
                int factor = at(below, i);
                int common = common(left, factor);
                if (common > 1) {
                    left /= common;
                    put(below, i, factor / common);
                }
            }
            top.times(left);
        }

        void over(int by) {
            int common = common(top.mod(by), by);
            if (common > 1) {
                top.shrink(common);
                push(by / common);
            } else {
                push(by);
            }
        }

        void toHundredths(int by) {
            times(by);
            over(100);
        }

        void times(Amount other) {
            mine.setProduct(top, other.top);
            top.copy(mine);
            reduceOver(other);
        }

        void add(Amount other) {
            crossWith(other);
            top.copy(mine);
            top.add(theirs, 1, 0);
            reduceOver(other);
        }

        /** Adds a number over another one. */
        void addPart(long number, int divisor) {
            theirs.set(number);
            for (int i = 0; i < factors; i++) {
                theirs.times(at(below, i));
            }
            top.times(divisor);
            top.add(theirs, 1, 0);
            push(divisor);
            reduce();
        }

        int compare(Amount other) {
            crossWith(other);
            return mine.compare(theirs);
        }

        /** Makes 'mine' and 'theirs' what stands above, once all below is the same. */
        private void crossWith(Amount other) {
            mine.copy(top);
            theirs.copy(other.top);
            for (int i = 0; i < other.factors; i++) {
                mine.times(at(other.below, i));
            }
            for (int i = 0; i < factors; i++) {
                theirs.times(at(below, i));
            }
        }

        /** Takes what stands below the other one as well, then brings all to lowest terms. */
        private void reduceOver(Amount other) {
            for (int i = 0; i < other.factors; i++) {
                push(at(other.below, i));
            }
            reduce();
        }

        private void reduce() {
            int left = 0;
            for (int i = 0; i < factors; i++) {
                int factor = at(below, i);
                int common = common(top.mod(factor), factor);
                if (common > 1) {
                    top.shrink(common);
                    factor /= common;
                }
                if (factor > 1) {
                    put(below, left, factor);
                    left++;
                }
            }
            factors = left;
        }

        /** One factor more below: into one that is there, as long as it stays small, or a new one. */
        private void push(int factor) {
            if (factor <= 1) {
                return;
            }
            for (int i = 0; i < factors && i < below.length; i++) {
                long product = (long) below[i] * factor;
                if (product <= MOST_FACTOR) {
                    below[i] = (int) product;
                    return;
                }
            }
            if (factors >= 0 && factors < below.length) {
                below[factors] = factor;
                factors++;
            }
        }

        /** The greatest common divisor. */
        private static int common(long one, int other) {
            long a = one;
            long b = other;
            for (int step = 0; step < 200 && b != 0; step++) {
                long rest = a % b;
                a = b;
                b = rest;
            }
            return a >= 1 && a <= MOST_FACTOR ? (int) a : 1;
        }

        /** Makes 'mine' the fraction, rounded down. */
        private void roundDown() {
            mine.copy(top);
            for (int i = 0; i < factors; i++) {
                mine.shrink(at(below, i));
            }
        }

        int floorAtMost(int most) {
            roundDown();
            return mine.atMost(most);
        }

        /** Makes 'mine' all that stands below. */
        private void multiplyBelow() {
            mine.set(1);
            for (int i = 0; i < factors; i++) {
                mine.times(at(below, i));
            }
        }

        /** How many signs write() writes. */
        int signs() {
            multiplyBelow();
            return top.digits() + (mine.isOne() ? 0 : 1 + mine.digits());
        }

        void write(StringBuilder to) {
            top.write(to);
            multiplyBelow();
            if (!mine.isOne()) {
                to.append('/');
                mine.write(to);
            }
        }

        /** Writes hundredths as a whole number with two digits behind the point, what is left cut off. */
        void writePointed(StringBuilder to) {
            roundDown();
            int hundredths = mine.mod(100);
            mine.shrink(100);
            mine.write(to);
            to.append('.');
            to.append(hundredths / 10);
            to.append(hundredths % 10);
        }
    }

    /** What follows from what the book tells. The set..() and ..Of() put it into an amount of the caller's. */
    private static final class Reckoning {
        final Book book;
        final Parts[] days = new Parts[MEMBERS];
        final long[] pays = new long[YEARS];
        final int[] prices = new int[YEARS];
        final int[] taken = new int[YEARS];
        final Amount wanted = new Amount();
        final Amount limit = new Amount();
        final Amount due = new Amount();
        final Amount height = new Amount();

        Reckoning() {
            book = new Book();
            for (int m = 0; m < days.length; m++) {
                days[m] = new Parts();
            }
        }

        /** To be called when a spell or the death of a member is another one. */
        void settle(int member) {
            parts(member).build(book.person(member));
        }

        void settleAll() {
            for (int m = 0; m < book.members; m++) {
                settle(m);
            }
        }

        Parts parts(int member) {
            return member > 0 && member < days.length ? days[member] : days[0];
        }

        int timeIn(int member, int house, int from, int end) {
            Parts of = parts(member);
            return of.sumOf(of.had, house, from, end);
        }

        int workIn(int member, int house, int from, int end) {
            Parts of = parts(member);
            return of.sumOf(of.labour, house, from, end);
        }

        int earnedAhead(int member, int house, int day) {
            return parts(member).earnedAhead(book.house(house), house, day);
        }

        boolean ownAhead(int member, int house, int day) {
            Parts of = parts(member);
            int tied = book.tiedTo(house);
            int time = 0;
            for (int h = 0; h < HOUSES; h++) {
                if ((tied >> h & 1) == 1) {
                    time += of.sumOf(of.had, h, 0, day);
                }
            }
            return time >= book.house(house).vest * YEAR_TIME;
        }

        int factorIn(int member, int house, int month) {
            House of = book.house(house);
            int above = book.person(member).ageIn(month) - of.normal;
            return above < 0 ? Math.max(0, 1000 + above * of.early) : 1000 + of.late * Math.min(above, 60);
        }

        // ---- what it is built on

        /** Puts into 'pays' the YEAR PAYS, times PAY_UNITS. */
        private void fillPays(int member, int house) {
            Arrays.fill(pays, 0);
            Parts parts = parts(member);
            Told wages = book.person(member).wagesAt(house);
            for (int k = 0; k < parts.many; k++) {
                int work = parts.workOf(k, house);
                for (int w = 0; work > 0 && w < wages.many; w++) {
                    int from = Math.max(parts.startOf(k), wages.startOf(w) * MONTH_DAYS);
                    int end = Math.min(parts.startOf(k + 1), wages.endOf(w, MONTHS) * MONTH_DAYS);
                    addPay(from, end, work * wages.numberAt(w));
                }
            }
        }

        private void addPay(int from, int end, int perDay) {
            for (int year = from / YEAR_DAYS; year >= 0 && year < pays.length && year * YEAR_DAYS < end; year++) {
                int first = Math.max(from, year * YEAR_DAYS);
                int behind = Math.min(end, (year + 1) * YEAR_DAYS);
                pays[year] += (long) Math.max(0, behind - first) * perDay;
            }
        }

        private long payOf(int year) {
            return year >= 0 && year < pays.length ? pays[year] : 0;
        }

        private void drop(int year) {
            if (year >= 0 && year < pays.length) {
                pays[year] = 0;
            }
        }

        void setYearPay(Amount out, int member, int house, int year, int other) {
            fillPays(member, house);
            out.set(payOf(year));
            out.times(book.prices.valueAt(other, FIRST_PRICE));
            out.over(PAY_UNITS);
            out.over(book.prices.valueAt(year, FIRST_PRICE));
        }

        void setBase(Amount out, int member, int house, int year) {
            House of = book.house(house);
            fillPays(member, house);
            book.prices.spread(prices, FIRST_PRICE);
            int number = of.form == ALL ? howManyPaid(year) : of.many;
            long bounded = 0;
            if (of.form == BEST) {
                keepBest(number, year);
            } else if (of.form == LAST) {
                bounded = keepLast(number, year, of.bound);
            }
            out.set(0);
            long sum = 0;
            for (int y = 0; y < year; y++) {
                sum += payOf(y);
                boolean samePrice = y + 1 < year && at(prices, y + 1) == at(prices, y);
                if (!samePrice) {
                    out.addPart(sum, at(prices, y));
                    sum = 0;
                }
            }
            out.times(at(prices, year));
            out.over(PAY_UNITS);
            out.addPart(bounded, 1);
            out.over(number);
        }

        /** Of the years ahead of one, drops all but so many with the greatest pays, raised to the same year. */
        private void keepBest(int number, int year) {
            Arrays.fill(taken, 0);
            for (int n = 0; n < number; n++) {
                int best = NONE;
                for (int y = 0; y < year; y++) {
                    boolean free = at(taken, y) == 0 && payOf(y) > 0;
                    if (free && (best == NONE || payOf(y) * at(prices, best) > payOf(best) * at(prices, y))) {
                        best = y;
                    }
                }
                put(taken, best, 1);
            }
            for (int y = 0; y < year; y++) {
                if (at(taken, y) == 0) {
                    drop(y);
                }
            }
        }

        /** Drops all but so many years just ahead of one, and those above the bound; tells what these come to. */
        private long keepLast(int number, int year, int bound) {
            long more = 0;
            for (int y = 0; y < year; y++) {
                boolean above = payOf(y) * at(prices, year) > (long) bound * PAY_UNITS * at(prices, y);
                if (y < year - number) {
                    drop(y);
                } else if (above) {
                    drop(y);
                    more += bound;
                }
            }
            return more;
        }

        private int howManyPaid(int year) {
            int many = 0;
            for (int y = 0; y < year; y++) {
                many += payOf(y) > 0 ? 1 : 0;
            }
            return many;
        }

        void setPension(Amount out, int member, int house, int month) {
            int day = month * MONTH_DAYS;
            int units = earnedAhead(member, house, day);
            if (units == 0 || !ownAhead(member, house, day)) {
                out.set(0);
                return;
            }
            setBase(out, member, house, month / YEAR_MONTHS);
            out.times(units);
            out.times(factorIn(member, house, month));
            out.over(EARNED_UNITS);
            out.over(PENSION_UNITS);
        }

        // ---- spouses

        /** Hundredths of units that are given to another member, of those earned ahead of the month of going. */
        private long givenUnits(int member, int other, int house, int month, int at) {
            long units = 0;
            int first = month * MONTH_DAYS;
            Parts parts = parts(member);
            House of = book.house(house);
            for (int w = 0; w < book.marriages; w++) {
                Marriage one = book.marriage(w);
                if (one.isDivided() && one.isOf(member) && one.isOf(other)) {
                    int till = parts.earnedAhead(of, house, Math.min(first, one.until));
                    int from = parts.earnedAhead(of, house, Math.min(first, one.from));
                    units += (long) one.share * (till - from);
                }
            }
            return book.person(other).diedAhead(at * MONTH_DAYS) ? 0 : units;
        }

        /** Makes of a PENSION what is GIVEN of it to another member. */
        void giveOf(Amount pension, int member, int other, int house, int month, int at) {
            long units = givenUnits(member, other, house, month, at);
            takeUnits(pension, units, earnedAhead(member, house, month * MONTH_DAYS));
        }

        /** Makes of a PENSION what is KEPT of it. */
        void keepOf(Amount pension, int member, int house, int month, int at) {
            int all = earnedAhead(member, house, month * MONTH_DAYS);
            long units = 100L * all;
            for (int other = 0; other < book.members; other++) {
                if (other != member) {
                    units -= givenUnits(member, other, house, month, at);
                }
            }
            takeUnits(pension, units, all);
        }

        // Without anything earned there is no pension either, and nothing of it to give or keep.
        private static void takeUnits(Amount pension, long units, int all) {
            pension.times(units);
            pension.over(100);
            pension.over(all);
        }

        void setWidow(Amount out, int member, int house) {
            out.set(0);
            int last = book.lastMarriage(member);
            if (last == NONE) {
                return;
            }
            Marriage one = book.marriage(last);
            int spouse = one.spouseOf(member);
            int death = book.person(spouse).death;
            if (one.isDivided() || death == NONE || death < one.from) {
                return;
            }
            int month = death / MONTH_DAYS;
            setPension(out, spouse, house, month);
            keepOf(out, spouse, house, month, month);
            out.toHundredths(book.house(house).widowPart);
        }

        // ---- levels, values

        void setLevel(Amount out, int house, int first, int year) {
            out.set(1);
            for (int y = first + 1; y <= year; y++) {
                nextLevel(out, house, first, y);
            }
        }

        /** Makes of the LEVEL of the year before that of a year. */
        void nextLevel(Amount level, int house, int first, int year) {
            House of = book.house(house);
            wanted.set(book.prices.valueAt(year, FIRST_PRICE));
            wanted.over(book.prices.valueAt(first, FIRST_PRICE));
            limit.copy(level);
            limit.toHundredths(100 + of.top);
            if (wanted.compare(limit) > 0) {
                level.copy(limit);
                return;
            }
            limit.copy(level);
            limit.toHundredths(100 + of.floor);
            level.copy(wanted.compare(limit) < 0 ? limit : wanted);
        }

        /** Makes of a PENSION its VALUE. */
        void toValue(Amount pension, int member, int house, int month) {
            pension.times(YEAR_MONTHS);
            pension.times(book.house(house).annuityOf(book.person(member).ageIn(month)));
        }

        /** Makes of a VALUE coins a month at a house. */
        void fromValue(Amount value, int member, int house, int month) {
            value.over(YEAR_MONTHS);
            value.over(book.house(house).annuityOf(book.person(member).ageIn(month)));
        }

        // ---- payments

        int dueOf(Stream of, int month) {
            Person person = book.person(of.member);
            if (person.diedAhead(month * MONTH_DAYS)) {
                return 0;
            }
            House house = book.house(of.house);
            setPension(due, of.member, of.house, of.month);
            keepOf(due, of.member, of.house, of.month, month);
            setLevel(height, of.house, of.month / YEAR_MONTHS, month / YEAR_MONTHS);
            due.times(height);
            due.toHundredths(house.pointsOf(of.rank, month));
            int bridge = person.ageIn(month) < house.bridgeAge ? house.bridge : 0;
            return due.floorAtMost(MOST_DUE) + bridge;
        }
    }
}
