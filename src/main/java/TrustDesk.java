import java.util.ArrayList;
import java.util.Arrays;
import java.util.NoSuchElementException;

/** A desk over old trusts: deeds, acts of law, years that close, schemes, groups and accounts. */
public final class TrustDesk {
    public static final int NONE = -1;

    private static final int LAST_DAY = 36000;
    private static final int YEAR_DAYS = 360;
    private static final int LAST_YEAR = 100;
    private static final int MOST_STEP = 720;
    private static final int PERSONS = 100;
    private static final int MILLION = 1000000;
    private static final long MOST_SUM = 1000000000L;
    private static final long MOST_COIN = 1000000000000000L;
    private static final long MOST_WORTH = 1000000000000L;
    private static final int NOT_SO = -2;

    private static final int MOST_FACTS = 300;
    private static final int MOST_BYTES = 400;
    private static final int FEED_BYTES = 20;
    private static final int MOST_ACTS = 20;
    private static final int MOST_RULES = 20;
    private static final int MOST_CLAUSES = 12;
    private static final int MOST_DEED_ENDS = 6;
    private static final int MOST_ENDS = 12;
    private static final int MOST_BRACKETS = 4;
    private static final int MOST_LETTERS = 8;
    private static final int MOST_FIGURES = 4;
    private static final int MOST_NUMBER = 9999;
    private static final int MOST_FUNDS = 12;
    private static final int MOST_ACRES = 999;
    private static final int MOST_STOCK = 99999;
    private static final int MOST_NEARS = 12;
    private static final int MOST_MARK = 7;
    private static final int ALL_MARKS = 255;
    private static final int MOST_TRUSTEES = 7;
    private static final int MOST_SCHEMES = 40;
    private static final int MOST_OBJECTIONS = 10;
    private static final int MOST_ENTRIES = 600;
    private static final int ENTRY_FIELDS = 4;
    private static final int MOST_ACCOUNTS = 200;
    private static final int MOST_GROUPED = 8;

    private static final String NAME_WORDS =
            "poor maids boys sick bread coal rent lake income coin living dead marks";
    private static final int FACT_KINDS = 8;
    private static final int RENT = 6;
    private static final int INCOME = 8;
    private static final int COIN = 9;
    private static final int LIVING_ENDS = 10;
    private static final int DEAD_ENDS = 11;
    private static final int MARKS = 12;
    private static final int DEED_NAMES = 10;
    private static final int ACT_NAMES = 13;
    private static final int NAMES = 13;

    private static final int FAIL = 0;
    private static final int KEEP = 1;
    private static final int DAYS = 2;
    private static final int LATE = 3;
    private static final int GAIN = 4;
    private static final int SELL = 5;
    private static final int RULES = 6;
    private static final int[] RULE_WITHOUT = {3, 1, 30, 90, 0, 20};
    private static final int[] RULE_LEAST = {1, 0, 1, 1, 0, 1};
    private static final int[] RULE_MOST = {50, 8, 360, 720, 20, 40};

    private static final int NEAR = 0;
    private static final int JOIN = 1;
    private static final int SALE = 2;
    private static final int STRIKE = 3;
    private static final int KINDS = 4;

    private static final int OPEN = 0;
    private static final int MADE = 1;
    private static final int FAILED = 2;

    private static final int LIVING = 0;
    private static final int DEAD = 1;
    private static final int STRUCK = 2;

    private static final int NO_TEXT = 1;
    private static final int NO_NUMBER = 2;
    private static final int NO_NAME = 3;
    private static final int TOO_MANY = 4;

    private final Facts facts = new Facts();
    private final Reader reader = new Reader();
    private final Reckoner reckoner = new Reckoner();
    private final Grouping grouping = new Grouping();
    private final Act noRules = new Act(0);
    private final ArrayList<Act> acts = new ArrayList<>();
    private final ArrayList<Fund> funds = new ArrayList<>();
    private final ArrayList<NearEnd> nearEnds = new ArrayList<>();
    private final ArrayList<Scheme> schemes = new ArrayList<>();
    private final int[] entries = new int[MOST_ENTRIES * ENTRY_FIELDS];
    private int entryCount;
    private int accountCount;
    private int today;

    public TrustDesk() {
    }

    // ---- facts

    public boolean fact(int which, int year, int v) {
        if (!isFact(which) || !isYear(year) || v < 0 || v > MOST_NUMBER) {
            return false;
        }
        return facts.tell(which, year, v, today);
    }

    public int factOf(int which, int year, int known) {
        if (!isFact(which) || !isYear(year) || !isKnown(known)) {
            return NONE;
        }
        return facts.asKnown(which, year, known);
    }

    // ---- texts

    public int feed(int a, int b, int c, int d, int e) {
        if (reader.size > MOST_BYTES - FEED_BYTES) {
            return NONE;
        }
        reader.takeFour(a);
        reader.takeFour(b);
        reader.takeFour(c);
        reader.takeFour(d);
        reader.takeFour(e);
        return reader.size;
    }

    public int end(int n) {
        if (n < 0 || n > reader.size) {
            return NONE;
        }
        reader.size = n;
        return n;
    }

    public int act(int from) {
        if (!isDay(from) || acts.size() >= MOST_ACTS) {
            return NONE;
        }
        Act told = new Act(from);
        boolean good = reader.readAct(told);
        reader.size = 0;
        if (!good) {
            return -1 - reader.fault;
        }
        acts.add(told);
        return told.ruleCount;
    }

    public int holds(int day, int what) {
        if (!isDay(day) || what < FAIL || what > SELL) {
            return NONE;
        }
        return inForce(day).rule(what);
    }

    public int fund(int acres, int stock) {
        if (acres < 0 || acres > MOST_ACRES || stock < 0 || stock > MOST_STOCK
                || funds.size() >= MOST_FUNDS) {
            return NONE;
        }
        Fund founded = new Fund(funds.size(), acres, stock);
        boolean good = reader.readDeed(founded);
        reader.size = 0;
        if (!good) {
            return -1 - reader.fault;
        }
        funds.add(founded);
        return founded.number;
    }

    public int near(int marks) {
        if (marks < 0 || marks > ALL_MARKS || nearEnds.size() >= MOST_NEARS) {
            return NONE;
        }
        EndText text = reader.readNearEnd();
        reader.size = 0;
        if (text == null) {
            return -1 - reader.fault;
        }
        nearEnds.add(new NearEnd(text, marks));
        return nearEnds.size() - 1;
    }

    public int place() {
        return reader.faultPlace;
    }

    // ---- days and years

    public int days(int n) {
        if (n < 1 || n > MOST_STEP || today + n > LAST_DAY) {
            return NONE;
        }
        int then = today + n;
        for (int year = today / YEAR_DAYS; year < then / YEAR_DAYS; year++) {
            closeYear(year);
        }
        today = then;
        return today;
    }

    private void closeYear(int year) {
        int last = lastDayOf(year);
        Act act = inForce(last);
        reckoner.know(facts, year, last);
        for (int i = 0; i < funds.size(); i++) {
            Fund fund = funds.get(i);
            if (!fund.isJoined()) {
                closeFund(fund, year, act);
            }
        }
    }

    private void closeFund(Fund fund, int year, Act act) {
        fund.receive(fund.coin * act.rule(GAIN) / 100);
        long income = fund.incomeAt(reckoner.names[RENT]);
        fund.receive(income);
        for (int i = 0; i < fund.ends.size(); i++) {
            End end = fund.ends.get(i);
            if (end.state == LIVING) {
                closeEnd(fund, i, end, year, act.rule(FAIL));
            }
        }
    }

    private void closeEnd(Fund fund, int number, End end, int year, int fail) {
        reckoner.knowFund(fund);
        if (reckoner.run(end.text.condition) == 0) {
            end.fails(year, fail);
            return;
        }
        end.failedYears = 0;
        long asked = Math.max(0, reckoner.run(end.text.sum));
        long paid = fund.coin >= asked ? asked : end.text.takesPart ? fund.coin : 0;
        if (paid > 0) {
            fund.coin -= paid;
            leadBack(fund, paid);
            write(year, fund.number, number, (int) paid);
        }
    }

    private void leadBack(Fund fund, long paid) {
        long left = paid;
        for (int i = 0; i < funds.size(); i++) {
            long share = paid * fund.partOf(i) / MILLION;
            funds.get(i).ledBack += share;
            left -= share;
        }
        for (int i = 0; i < funds.size() && left > 0; i++) {
            if (fund.partOf(i) > 0) {
                funds.get(i).ledBack++;
                left--;
            }
        }
    }

    private void write(int year, int fund, int end, int paid) {
        int at = entryCount * ENTRY_FIELDS;
        if (at < 0 || at > entries.length - ENTRY_FIELDS) {
            return;
        }
        entries[at] = year;
        entries[at + 1] = fund;
        entries[at + 2] = end;
        entries[at + 3] = paid;
        entryCount++;
    }

    // ---- schemes

    public boolean trustee(int fund, int person) {
        Fund found = fundAt(fund);
        if (found == null || !isPerson(person) || found.isJoined()) {
            return false;
        }
        return found.takeTrustee(person);
    }

    public int propose(int kind, int fund, int x) {
        if (fundAt(fund) == null || !isSubject(kind, x) || schemes.size() >= MOST_SCHEMES) {
            return NONE;
        }
        int lastDay = today + inForce(today).rule(DAYS);
        schemes.add(new Scheme(kind, fund, x, today, lastDay));
        return schemes.size() - 1;
    }

    private boolean isSubject(int kind, int x) {
        switch (kind) {
            case NEAR:
                return nearAt(x) != null;
            case JOIN:
                return fundAt(x) != null;
            case SALE:
                return x >= 1 && x <= MOST_ACRES;
            case STRIKE:
                return x >= 0;
            default:
                return false;
        }
    }

    public boolean objects(int scheme, int person) {
        Scheme found = schemeAt(scheme);
        if (found == null || !isPerson(person) || found.state != OPEN || today > found.lastDay) {
            return false;
        }
        return found.takeObjection(person);
    }

    public boolean withdraws(int scheme, int person) {
        Scheme found = schemeAt(scheme);
        if (found == null || !isPerson(person) || found.state != OPEN) {
            return false;
        }
        return found.dropObjection(person);
    }

    public boolean vote(int scheme, int person, boolean yes) {
        Scheme found = schemeAt(scheme);
        if (found == null || !isPerson(person) || found.state != OPEN || !maySpeak(found, person)) {
            return false;
        }
        found.takeVote(person, yes);
        return true;
    }

    private boolean maySpeak(Scheme scheme, int person) {
        Fund fund = fundAt(scheme.fund);
        if (fund != null && fund.hasTrustee(person)) {
            return true;
        }
        Fund other = scheme.kind == JOIN ? fundAt(scheme.x) : null;
        return other != null && other.hasTrustee(person);
    }

    public int settle(int scheme) {
        Scheme found = schemeAt(scheme);
        if (found == null || found.state != OPEN || today <= found.lastDay) {
            return NONE;
        }
        int reason = failureOf(found);
        found.failedBy = reason;
        found.state = reason == 0 ? MADE : FAILED;
        if (reason == 0) {
            carryOut(found);
        }
        return reason;
    }

    private int failureOf(Scheme scheme) {
        Fund fund = fundAt(scheme.fund);
        if (fund == null || !canBe(scheme, fund)) {
            return 1;
        }
        Act act = inForce(today);
        if (isBarred(scheme.kind, fund, act)) {
            return 2;
        }
        if (Integer.bitCount(marksLeft(scheme, fund)) < act.rule(KEEP)) {
            return 3;
        }
        if (!isCarried(scheme, fund)) {
            return 4;
        }
        return scheme.objections > 0 ? 5 : 0;
    }

    private boolean canBe(Scheme scheme, Fund fund) {
        if (fund.isJoined()) {
            return false;
        }
        switch (scheme.kind) {
            case NEAR:
                return fund.firstDead() != null;
            case JOIN:
                return canJoin(fund, fundAt(scheme.x));
            case SALE:
                return fund.acres >= scheme.x;
            default:
                End end = fund.endAt(scheme.x);
                return end != null && end.state != STRUCK;
        }
    }

    private boolean canJoin(Fund fund, Fund other) {
        if (other == null || other == fund || other.isJoined()) {
            return false;
        }
        return fund.endsThatStand() + other.endsThatStand() <= MOST_ENDS;
    }

    private boolean isBarred(int kind, Fund fund, Act act) {
        reckoner.know(facts, yearOf(today), today);
        reckoner.knowFund(fund);
        reckoner.names[LIVING_ENDS] = fund.endsIn(LIVING);
        reckoner.names[DEAD_ENDS] = fund.endsIn(DEAD);
        reckoner.names[MARKS] = Integer.bitCount(fund.marks);
        for (int i = 0; i < act.bars.size(); i++) {
            if (act.barKind(i) == kind && reckoner.run(act.bars.get(i)) != 0) {
                return true;
            }
        }
        return false;
    }

    private int marksLeft(Scheme scheme, Fund fund) {
        if (scheme.kind == NEAR) {
            NearEnd near = nearAt(scheme.x);
            return near == null ? 0 : near.marks & fund.marks;
        }
        if (scheme.kind == JOIN) {
            Fund other = fundAt(scheme.x);
            return other == null ? 0 : other.marks & fund.marks;
        }
        return fund.marks;
    }

    private boolean isCarried(Scheme scheme, Fund fund) {
        if (scheme.yesOf(fund) < fund.trustNeeds) {
            return false;
        }
        Fund other = scheme.kind == JOIN ? fundAt(scheme.x) : null;
        return other == null || scheme.yesOf(other) >= other.trustNeeds;
    }

    private void carryOut(Scheme scheme) {
        Fund fund = fundAt(scheme.fund);
        if (fund == null) {
            return;
        }
        switch (scheme.kind) {
            case NEAR:
                bringNear(fund, nearAt(scheme.x));
                break;
            case JOIN:
                join(fund, fundAt(scheme.x));
                break;
            case SALE:
                sell(fund, scheme.x);
                break;
            default:
                strike(fund.endAt(scheme.x));
                break;
        }
    }

    private void bringNear(Fund fund, NearEnd near) {
        End dead = fund.firstDead();
        if (dead == null || near == null) {
            return;
        }
        dead.becomes(near.text);
        fund.marks &= near.marks;
    }

    private void join(Fund fund, Fund other) {
        if (other == null) {
            return;
        }
        long worth = worthOf(fund);
        long otherWorth = worthOf(other);
        if (worth == 0 && otherWorth == 0) {
            worth = 1;
            otherWorth = 1;
        }
        other.mixParts(otherWorth, fund, worth);
        other.takeOver(fund);
        fund.giveUp(other.number);
    }

    private long worthOf(Fund fund) {
        long income = fund.incomeAt(facts.asKnown(RENT, yearOf(today), today));
        return Math.min(fund.coin + 20 * income, MOST_WORTH);
    }

    private void sell(Fund fund, int acres) {
        long rent = facts.asKnown(RENT, yearOf(today), today);
        fund.acres -= acres;
        fund.receive(acres * rent * inForce(today).rule(SELL));
    }

    private void strike(End end) {
        if (end != null) {
            end.state = STRUCK;
        }
    }

    public int scheme(int scheme, int what) {
        Scheme found = schemeAt(scheme);
        if (found == null) {
            return NONE;
        }
        switch (what) {
            case 0:
                return found.kind;
            case 1:
                return found.fund;
            case 2:
                return found.x;
            case 3:
                return found.firstDay;
            case 4:
                return found.lastDay;
            case 5:
                return found.state;
            case 6:
                return found.failedBy;
            case 7:
                return found.objections;
            case 8:
                return found.saidYes;
            case 9:
                return found.saidNo;
            default:
                return NONE;
        }
    }

    // ---- funds

    public int fundOf(int fund, int what) throws NoSuchElementException {
        Fund found = fundAt(fund);
        if (found == null) {
            throw new NoSuchElementException("no such fund");
        }
        switch (what) {
            case 0:
                return found.acres;
            case 1:
                return found.stock;
            case 2:
                return found.marks;
            case 3:
                return found.ends.size();
            case 4:
                return found.endsIn(LIVING);
            case 5:
                return found.endsIn(DEAD);
            case 6:
                return found.joinedTo;
            case 7:
                return found.trusteeCount;
            case 8:
                return found.trustMost;
            case 9:
                return found.trustNeeds;
            default:
                throw new NoSuchElementException("no such question");
        }
    }

    public long coin(int fund) {
        Fund found = fundAt(fund);
        return found == null ? NONE : found.coin;
    }

    public int income(int fund, int year, int known) {
        Fund found = fundAt(fund);
        if (found == null || !isYear(year) || !isKnown(known)) {
            return NONE;
        }
        return (int) found.incomeAt(facts.asKnown(RENT, year, known));
    }

    public int part(int fund, int founder) {
        Fund found = fundAt(fund);
        return found == null || fundAt(founder) == null ? NONE : found.partOf(founder);
    }

    public long paid(int founder) {
        Fund found = fundAt(founder);
        return found == null ? NONE : found.ledBack;
    }

    public int endOf(int fund, int end, int what) {
        End found = endAt(fund, end);
        if (found == null) {
            return NONE;
        }
        switch (what) {
            case 0:
                return found.state;
            case 1:
                return found.failedYears;
            case 2:
                return found.diedIn;
            case 3:
                return found.text.letters;
            default:
                return NONE;
        }
    }

    public int due(int fund, int end, int year, int known) {
        End found = endAt(fund, end);
        if (found == null || !isYear(year) || !isKnown(known)) {
            return NONE;
        }
        reckoner.know(facts, year, known);
        reckoner.knowFund(fundAt(fund));
        if (reckoner.run(found.text.condition) == 0) {
            return NOT_SO;
        }
        return (int) Math.max(0, reckoner.run(found.text.sum));
    }

    public int why(int fund, int end, int year, int known) {
        End found = endAt(fund, end);
        if (found == null || !isYear(year) || !isKnown(known)) {
            return NONE;
        }
        reckoner.know(facts, year, known);
        reckoner.knowFund(fundAt(fund));
        reckoner.run(found.text.condition);
        return reckoner.firstFalse;
    }

    public int entry(int k, int what) {
        if (k < 0 || k >= entryCount || what < 0 || what >= ENTRY_FIELDS) {
            return NONE;
        }
        int at = k * ENTRY_FIELDS + what;
        return at >= 0 && at < entries.length ? entries[at] : NONE;
    }

    // ---- marks and groups

    public int nearest(int fund) {
        Fund found = fundAt(fund);
        if (found == null || found.isJoined()) {
            return NONE;
        }
        int most = inForce(today).rule(KEEP) - 1;
        int best = NONE;
        for (int i = 0; i < nearEnds.size(); i++) {
            int kept = Integer.bitCount(nearEnds.get(i).marks & found.marks);
            if (kept > most) {
                most = kept;
                best = i;
            }
        }
        return best;
    }

    public int marks(int fund, int near, int what) {
        Fund found = fundAt(fund);
        NearEnd end = nearAt(near);
        if (found == null || end == null || what < 0 || what > 1) {
            return NONE;
        }
        return Integer.bitCount(found.marks & (what == 0 ? end.marks : ~end.marks));
    }

    public long group(int funds) {
        if (!gather(funds)) {
            return NONE;
        }
        grouping.search();
        return grouping.bestIdle;
    }

    public int grouped(int funds, int fund) {
        if (fundAt(fund) == null || (funds >> fund & 1) == 0 || !gather(funds)) {
            return NONE;
        }
        grouping.search();
        int before = Integer.bitCount(funds & ((1 << fund) - 1));
        return grouping.bestGroupOf(before);
    }

    public boolean lay(int fund, int group) {
        Fund found = fundAt(fund);
        if (found == null || group < 0 || group >= MOST_GROUPED) {
            return false;
        }
        found.laidGroup = group;
        return true;
    }

    public long judge(int funds) {
        if (!gather(funds)) {
            return NONE;
        }
        return grouping.judgeLaid();
    }

    /** Lays the funds told as bits before the grouping; false if they can't be grouped at all. */
    private boolean gather(int bits) {
        if (!canGather(bits)) {
            return false;
        }
        grouping.clear(inForce(today).rule(KEEP));
        reckoner.know(facts, yearOf(today), today);
        for (int i = 0; i < funds.size(); i++) {
            if ((bits >> i & 1) != 0) {
                Fund fund = funds.get(i);
                grouping.take(fund.marks, spareOf(fund), fund.laidGroup);
            }
        }
        return true;
    }

    private boolean canGather(int bits) {
        int count = Integer.bitCount(bits);
        if (count < 1 || count > MOST_GROUPED || bits >> funds.size() != 0) {
            return false;
        }
        for (int i = 0; i < funds.size(); i++) {
            if ((bits >> i & 1) != 0 && funds.get(i).isJoined()) {
                return false;
            }
        }
        return true;
    }

    /** Income less need, by the facts that the reckoner knows. */
    private long spareOf(Fund fund) {
        reckoner.knowFund(fund);
        long spare = fund.incomeAt(reckoner.names[RENT]);
        for (int i = 0; i < fund.ends.size(); i++) {
            End end = fund.ends.get(i);
            if (end.state == LIVING && reckoner.run(end.text.condition) != 0) {
                spare -= Math.max(0, reckoner.run(end.text.sum));
            }
        }
        return spare;
    }

    // ---- accounts and counts

    public int account(int fund, int year) {
        Fund found = fundAt(fund);
        if (found == null || !isYear(year) || lastDayOf(year) >= today
                || accountCount >= MOST_ACCOUNTS || !found.takeAccount(year)) {
            return NONE;
        }
        accountCount++;
        int last = lastDayOf(year);
        int late = today - last - inForce(last).rule(LATE);
        return late > 0 ? late : 0;
    }

    public int count(int what) {
        switch (what) {
            case 0:
                return today;
            case 1:
                return yearOf(today);
            case 2:
                return facts.count;
            case 3:
                return acts.size();
            case 4:
                return funds.size();
            case 5:
                return nearEnds.size();
            case 6:
                return schemes.size();
            case 7:
                return entryCount;
            case 8:
                return reader.size;
            case 9:
                return accountCount;
            case 10:
                return schemesMade();
            case 11:
                return fundsNotJoined();
            default:
                return NONE;
        }
    }

    private int schemesMade() {
        int made = 0;
        for (int i = 0; i < schemes.size(); i++) {
            if (schemes.get(i).state == MADE) {
                made++;
            }
        }
        return made;
    }

    private int fundsNotJoined() {
        int free = 0;
        for (int i = 0; i < funds.size(); i++) {
            if (!funds.get(i).isJoined()) {
                free++;
            }
        }
        return free;
    }

    // ---- what is there

    private Fund fundAt(int number) {
        return number >= 0 && number < funds.size() ? funds.get(number) : null;
    }

    private End endAt(int fund, int end) {
        Fund found = fundAt(fund);
        return found == null ? null : found.endAt(end);
    }

    private NearEnd nearAt(int number) {
        return number >= 0 && number < nearEnds.size() ? nearEnds.get(number) : null;
    }

    private Scheme schemeAt(int number) {
        return number >= 0 && number < schemes.size() ? schemes.get(number) : null;
    }

    private Act inForce(int day) {
        Act best = noRules;
        for (int i = 0; i < acts.size(); i++) {
            Act act = acts.get(i);
            if (act.from <= day && act.from >= best.from) {
                best = act;
            }
        }
        return best;
    }

    private static boolean isFact(int which) {
        return which >= 0 && which < FACT_KINDS;
    }

    private static boolean isYear(int year) {
        return year >= 0 && year <= LAST_YEAR;
    }

    private static boolean isDay(int day) {
        return day >= 0 && day <= LAST_DAY;
    }

    private static boolean isPerson(int person) {
        return person >= 0 && person < PERSONS;
    }

    private boolean isKnown(int day) {
        return day >= 0 && day <= today;
    }

    private static int yearOf(int day) {
        return day / YEAR_DAYS;
    }

    private static int lastDayOf(int year) {
        return year * YEAR_DAYS + YEAR_DAYS - 1;
    }

    /** All tellings of facts, in the order in which they came. */
    static final class Facts {
        private final int[] kinds = new int[MOST_FACTS];
        private final int[] years = new int[MOST_FACTS];
        private final int[] values = new int[MOST_FACTS];
        private final int[] toldOn = new int[MOST_FACTS];
        int count;

        boolean tell(int kind, int year, int value, int day) {
            int at = count;
            if (at < 0 || at >= MOST_FACTS) {
                return false;
            }
            kinds[at] = kind;
            years[at] = year;
            values[at] = value;
            toldOn[at] = day;
            count++;
            return true;
        }

        /** Of one year the later telling comes later in the rows, so it takes the earlier one's place. */
        int asKnown(int kind, int year, int known) {
            int bestYear = NONE;
            int value = 0;
            for (int i = 0; i < count && i < MOST_FACTS && toldOn[i] <= known; i++) {
                if (kinds[i] == kind && years[i] <= year && years[i] >= bestYear) {
                    bestYear = years[i];
                    value = values[i];
                }
            }
            return value;
        }
    }

    /** A sum or a condition in postfix order: so it is worked out in one loop, without recursion. */
    static final class Code {
        static final int NUMBER = 0;
        static final int NAME = 1;
        static final int ADD = 2;
        static final int TAKE = 3;
        static final int TIMES = 4;
        static final int LESS = 5;
        static final int MORE = 6;
        static final int SAME = 7;
        static final int NOT = 8;
        static final int AND = 9;
        static final int OR = 10;
        static final int WIDTH = 16;

        final int[] steps;

        Code(int[] steps) {
            this.steps = steps;
        }
    }

    /** Works out codes by what the names stand for; its rows are made once for all calls. */
    static final class Reckoner {
        /** Four brackets and what is open around them never need more than some fifteen places. */
        private static final int PLACES = 64;

        final long[] names = new long[NAMES];
        /** The number of the first comparison of the latest code that did not hold, or NONE. */
        int firstFalse = NONE;
        private final long[] stack = new long[PLACES];
        private int top;
        private int comparisons;

        void know(Facts facts, int year, int known) {
            for (int i = 0; i < FACT_KINDS; i++) {
                names[i] = facts.asKnown(i, year, known);
            }
        }

        /** What it knows of a fund hangs on the facts: they are known first. */
        void knowFund(Fund fund) {
            if (fund == null) {
                return;
            }
            names[INCOME] = Math.min(fund.incomeAt(names[RENT]), MOST_SUM);
            names[COIN] = Math.min(fund.coin, MOST_SUM);
        }

        long run(Code code) {
            top = 0;
            comparisons = 0;
            firstFalse = NONE;
            for (int i = 0; i < code.steps.length; i++) {
                int kind = code.steps[i] % Code.WIDTH;
                int operand = code.steps[i] / Code.WIDTH;
                if (kind == Code.NUMBER) {
                    push(operand);
                } else if (kind == Code.NAME) {
                    push(operand >= 0 && operand < NAMES ? names[operand] : 0);
                } else if (kind == Code.NOT) {
                    push(1 - pop());
                } else {
                    long right = pop();
                    push(worked(kind, pop(), right));
                }
            }
            return pop();
        }

        private long worked(int kind, long left, long right) {
            switch (kind) {
                case Code.ADD:
                    return bounded(left + right);
                case Code.TAKE:
                    return bounded(left - right);
                case Code.TIMES:
                    return bounded(left * right);
                case Code.LESS:
                    return compared(left < right);
                case Code.MORE:
                    return compared(left > right);
                case Code.SAME:
                    return compared(left == right);
                case Code.AND:
                    return left & right;
                default:
                    return left | right;
            }
        }

        private long compared(boolean so) {
            if (!so && firstFalse == NONE) {
                firstFalse = comparisons;
            }
            comparisons++;
            return so ? 1 : 0;
        }

        private static long bounded(long number) {
            return Math.max(-MOST_SUM, Math.min(MOST_SUM, number));
        }

        private void push(long number) {
            if (top >= 0 && top < PLACES) {
                stack[top] = number;
                top++;
            }
        }

        private long pop() {
            if (top < 1 || top > PLACES) {
                return 0;
            }
            top--;
            return stack[top];
        }
    }

    /** What a text says of one end. */
    static final class EndText {
        final long name;
        final int letters;
        final Code sum;
        final Code condition;
        final boolean takesPart;

        EndText(long name, int letters, Code sum, Code condition, boolean takesPart) {
            this.name = name;
            this.letters = letters;
            this.sum = sum;
            this.condition = condition;
            this.takesPart = takesPart;
        }
    }

    /** An end of a fund, with how it fares. */
    static final class End {
        EndText text;
        int state = LIVING;
        int failedYears;
        int diedIn = NONE;

        End(EndText text) {
            this.text = text;
        }

        End copy() {
            End other = new End(text);
            other.state = state;
            other.failedYears = failedYears;
            other.diedIn = diedIn;
            return other;
        }

        void fails(int year, int most) {
            failedYears++;
            if (failedYears >= most) {
                state = DEAD;
                diedIn = year;
            }
        }

        void becomes(EndText other) {
            text = other;
            state = LIVING;
            failedYears = 0;
            diedIn = NONE;
        }
    }

    /** An end that a dead one may become. */
    static final class NearEnd {
        final EndText text;
        final int marks;

        NearEnd(EndText text, int marks) {
            this.text = text;
            this.marks = marks;
        }
    }

    /** An act of law: six numbers and the bars of schemes. */
    static final class Act {
        final int from;
        int ruleCount;
        final ArrayList<Code> bars = new ArrayList<>();
        private final int[] rules = RULE_WITHOUT.clone();
        private final int[] barKinds = new int[MOST_RULES];

        Act(int from) {
            this.from = from;
        }

        int rule(int which) {
            return which >= 0 && which < rules.length ? rules[which] : NONE;
        }

        void setRule(int which, int number) {
            if (which >= 0 && which < rules.length) {
                rules[which] = number;
            }
        }

        int barKind(int number) {
            return number >= 0 && number < MOST_RULES ? barKinds[number] : NONE;
        }

        void addBar(int kind, Code condition) {
            int at = bars.size();
            if (at < MOST_RULES) {
                barKinds[at] = kind;
                bars.add(condition);
            }
        }
    }

    /** A fund; the founder of the same number is kept in it too. */
    static final class Fund {
        final int number;
        int acres;
        int stock;
        long coin;
        int marks;
        int trustMost = MOST_TRUSTEES;
        int trustNeeds = 1;
        int trusteeCount;
        int joinedTo = NONE;
        int laidGroup;
        long ledBack;
        final ArrayList<End> ends = new ArrayList<>();
        private final int[] parts = new int[MOST_FUNDS];
        private final boolean[] trustees = new boolean[PERSONS];
        private final boolean[] accounts = new boolean[LAST_YEAR + 1];

        Fund(int number, int acres, int stock) {
            this.number = number;
            this.acres = acres;
            this.stock = stock;
            if (number >= 0 && number < MOST_FUNDS) {
                parts[number] = MILLION;
            }
        }

        boolean isJoined() {
            return joinedTo != NONE;
        }

        long incomeAt(long rent) {
            return acres * rent + stock;
        }

        void receive(long more) {
            coin = Math.min(coin + more, MOST_COIN);
        }

        int partOf(int founder) {
            return founder >= 0 && founder < MOST_FUNDS ? parts[founder] : 0;
        }

        End endAt(int at) {
            return at >= 0 && at < ends.size() ? ends.get(at) : null;
        }

        boolean hasEnd(long name) {
            for (int i = 0; i < ends.size(); i++) {
                if (ends.get(i).text.name == name) {
                    return true;
                }
            }
            return false;
        }

        End firstDead() {
            for (int i = 0; i < ends.size(); i++) {
                if (ends.get(i).state == DEAD) {
                    return ends.get(i);
                }
            }
            return null;
        }

        int endsIn(int state) {
            int found = 0;
            for (int i = 0; i < ends.size(); i++) {
                if (ends.get(i).state == state) {
                    found++;
                }
            }
            return found;
        }

        int endsThatStand() {
            return ends.size() - endsIn(STRUCK);
        }

        boolean hasTrustee(int person) {
            return person >= 0 && person < PERSONS && trustees[person];
        }

        boolean takeTrustee(int person) {
            if (person < 0 || person >= PERSONS || trustees[person] || trusteeCount >= trustMost) {
                return false;
            }
            trustees[person] = true;
            trusteeCount++;
            return true;
        }

        boolean takeAccount(int year) {
            if (year < 0 || year > LAST_YEAR || accounts[year]) {
                return false;
            }
            accounts[year] = true;
            return true;
        }

        void mixParts(long worth, Fund joined, long joinedWorth) {
            long both = worth + joinedWorth;
            if (both <= 0) {
                return;
            }
            int left = MILLION;
            int least = NONE;
            for (int i = 0; i < MOST_FUNDS; i++) {
                parts[i] = (int) ((worth * parts[i] + joinedWorth * joined.parts[i]) / both);
                left -= parts[i];
                if (least == NONE && parts[i] > 0) {
                    least = i;
                }
            }
            if (least >= 0) {
                parts[least] += left;
            }
        }

        void takeOver(Fund joined) {
            receive(joined.coin);
            acres = Math.min(acres + joined.acres, MOST_ACRES);
            stock = Math.min(stock + joined.stock, MOST_STOCK);
            marks &= joined.marks;
            for (int i = 0; i < joined.ends.size(); i++) {
                if (joined.ends.get(i).state != STRUCK) {
                    ends.add(joined.ends.get(i).copy());
                }
            }
        }

        void giveUp(int to) {
            joinedTo = to;
            coin = 0;
            acres = 0;
            stock = 0;
            trusteeCount = 0;
            for (int i = 0; i < PERSONS; i++) {
                trustees[i] = false;
            }
            for (int i = 0; i < ends.size(); i++) {
                ends.get(i).state = STRUCK;
            }
        }
    }

    /** A scheme, with its objections and votes. */
    static final class Scheme {
        private static final int YES = 1;
        private static final int NO = 2;

        final int kind;
        final int fund;
        final int x;
        final int firstDay;
        final int lastDay;
        int state = OPEN;
        int failedBy;
        int objections;
        int saidYes;
        int saidNo;
        private final boolean[] objectors = new boolean[PERSONS];
        private final byte[] votes = new byte[PERSONS];

        Scheme(int kind, int fund, int x, int firstDay, int lastDay) {
            this.kind = kind;
            this.fund = fund;
            this.x = x;
            this.firstDay = firstDay;
            this.lastDay = lastDay;
        }

        boolean takeObjection(int person) {
            if (person < 0 || person >= PERSONS || objectors[person]
                    || objections >= MOST_OBJECTIONS) {
                return false;
            }
            objectors[person] = true;
            objections++;
            return true;
        }

        boolean dropObjection(int person) {
            if (person < 0 || person >= PERSONS || !objectors[person]) {
                return false;
            }
            objectors[person] = false;
            objections--;
            return true;
        }

        void takeVote(int person, boolean yes) {
            if (person < 0 || person >= PERSONS) {
                return;
            }
            if (votes[person] == YES) {
                saidYes--;
            } else if (votes[person] == NO) {
                saidNo--;
            }
            votes[person] = (byte) (yes ? YES : NO);
            if (yes) {
                saidYes++;
            } else {
                saidNo++;
            }
        }

        int yesOf(Fund one) {
            int found = 0;
            for (int i = 0; i < PERSONS; i++) {
                if (votes[i] == YES && one.hasTrustee(i)) {
                    found++;
                }
            }
            return found;
        }
    }

    /** The tape, and the reading of it: cut into tokens, then read up to the first fault. */
    static final class Reader {
        private static final int TEXT_END = 0;
        private static final int WORD = 1;
        private static final int FIGURES = 2;
        private static final int SIGN = 3;
        private static final int BLANK = 4;

        /** A word is known by its place among the names of a sum and, behind these, the words of texts. */
        private static final String TEXT_WORDS =
                "fail keep days late gain sell near join sale strike bar mark trust end pays if part not and or";
        private static final int FIRST_RULE = NAMES;
        private static final int FIRST_KIND = FIRST_RULE + RULES;
        private static final int BAR_WORD = FIRST_KIND + KINDS;
        private static final int MARK_WORD = BAR_WORD + 1;
        private static final int TRUST_WORD = BAR_WORD + 2;
        private static final int END_WORD = BAR_WORD + 3;
        private static final int PAYS_WORD = BAR_WORD + 4;
        private static final int IF_WORD = BAR_WORD + 5;
        private static final int PART_WORD = BAR_WORD + 6;
        private static final int NOT_WORD = BAR_WORD + 7;
        private static final int AND_WORD = BAR_WORD + 8;
        private static final int OR_WORD = BAR_WORD + 9;

        int size;
        int fault;
        int faultPlace = NONE;
        private final int[] bytes = new int[MOST_BYTES];
        private final int[] kinds = new int[MOST_BYTES];
        private final int[] starts = new int[MOST_BYTES];
        private final int[] stops = new int[MOST_BYTES];
        /** Of a word its place, of figures their number, of a sign its byte; NONE for what means nothing. */
        private final int[] values = new int[MOST_BYTES];
        private int tokenCount;
        private int at;
        private int kind;
        private int start;
        private int stop;
        private int value;
        private int number;
        private int nameCount;
        private int open;
        private final int[] steps = new int[MOST_BYTES];
        private int stepCount;

        void takeFour(int four) {
            for (int shift = 24; shift >= 0; shift -= 8) {
                if (size >= 0 && size < MOST_BYTES) {
                    bytes[size] = four >>> shift & 255;
                    size++;
                }
            }
        }

        boolean readAct(Act act) {
            begin(ACT_NAMES);
            for (int i = 0; i <= MOST_RULES && kind != TEXT_END; i++) {
                if (!rule(act)) {
                    return false;
                }
            }
            return true;
        }

        boolean readDeed(Fund fund) {
            begin(DEED_NAMES);
            for (int i = 0; i <= MOST_CLAUSES && kind != TEXT_END; i++) {
                if (!clause(fund, i)) {
                    return false;
                }
            }
            return true;
        }

        /** Null with a fault. */
        EndText readNearEnd() {
            begin(DEED_NAMES);
            if (!isWord(END_WORD)) {
                refuse(NO_TEXT);
                return null;
            }
            EndText text = endText(null);
            if (text == null || !sign(';')) {
                return null;
            }
            if (kind != TEXT_END) {
                refuse(NO_TEXT);
                return null;
            }
            return text;
        }

        private void begin(int namesAllowed) {
            nameCount = namesAllowed;
            fault = 0;
            faultPlace = NONE;
            open = 0;
            cut();
            at = NONE;
            advance();
        }

        // ---- rules and clauses

        private boolean rule(Act act) {
            int which = valueAmong(FIRST_RULE, RULES);
            boolean bars = isWord(BAR_WORD);
            if (which == NONE && !bars) {
                return refuse(NO_TEXT);
            }
            if (act.ruleCount >= MOST_RULES) {
                return refuse(TOO_MANY);
            }
            act.ruleCount++;
            advance();
            return (bars ? bar(act) : ruleNumber(act, which)) && sign(';');
        }

        private boolean ruleNumber(Act act, int which) {
            if (which < 0 || which >= RULE_LEAST.length || which >= RULE_MOST.length
                    || !numeral(RULE_LEAST[which], RULE_MOST[which])) {
                return false;
            }
            act.setRule(which, number);
            return true;
        }

        private boolean bar(Act act) {
            int barred = valueAmong(FIRST_KIND, KINDS);
            if (barred == NONE) {
                return refuse(NO_TEXT);
            }
            advance();
            stepCount = 0;
            if (!word(IF_WORD) || !condition()) {
                return false;
            }
            act.addBar(barred, stepsTaken());
            return true;
        }

        private boolean clause(Fund fund, int before) {
            boolean ends = isWord(END_WORD);
            boolean marks = isWord(MARK_WORD);
            if (!ends && !marks && !isWord(TRUST_WORD)) {
                return refuse(NO_TEXT);
            }
            if (before >= MOST_CLAUSES || ends && fund.ends.size() >= MOST_DEED_ENDS) {
                return refuse(TOO_MANY);
            }
            if (ends) {
                EndText text = endText(fund);
                if (text == null) {
                    return false;
                }
                fund.ends.add(new End(text));
            } else if (!(marks ? markClause(fund) : trustClause(fund))) {
                return false;
            }
            return sign(';');
        }

        private boolean markClause(Fund fund) {
            advance();
            if (!numeral(0, MOST_MARK)) {
                return false;
            }
            fund.marks |= 1 << number;
            for (int i = 0; i < MOST_BYTES && kind == FIGURES; i++) {
                if (!numeral(0, MOST_MARK)) {
                    return false;
                }
                fund.marks |= 1 << number;
            }
            return true;
        }

        private boolean trustClause(Fund fund) {
            advance();
            if (!numeral(1, MOST_TRUSTEES)) {
                return false;
            }
            int most = number;
            if (!numeral(1, most)) {
                return false;
            }
            fund.trustMost = most;
            fund.trustNeeds = number;
            return true;
        }

        /** An end's clause without its last sign, for a fund or (null) for a near end; null with a fault. */
        private EndText endText(Fund fund) {
            advance();
            int letters = stop - start;
            if (kind != WORD || letters > MOST_LETTERS) {
                refuse(NO_TEXT);
                return null;
            }
            long name = wordAsNumber();
            if (fund != null && fund.hasEnd(name)) {
                refuse(NO_NAME);
                return null;
            }
            advance();
            stepCount = 0;
            if (!word(PAYS_WORD) || !sum()) {
                return null;
            }
            Code asked = stepsTaken();
            stepCount = 0;
            if (!word(IF_WORD) || !condition()) {
                return null;
            }
            boolean takesPart = isWord(PART_WORD);
            if (takesPart) {
                advance();
            }
            return new EndText(name, letters, asked, stepsTaken(), takesPart);
        }

        /** Eight letters of five bits each fit a number, so names are compared as such. */
        private long wordAsNumber() {
            long name = 0;
            for (int i = start; i >= 0 && i < stop && i < MOST_BYTES; i++) {
                name = name * 32 + bytes[i] - 'a' + 1;
            }
            return name;
        }

        // ---- conditions and sums, whose brackets are counted: so the recursion ends

        private boolean condition() {
            if (!both()) {
                return false;
            }
            for (int i = 0; i < MOST_BYTES && isWord(OR_WORD); i++) {
                advance();
                if (!both()) {
                    return false;
                }
                emit(Code.OR, 0);
            }
            return true;
        }

        private boolean both() {
            if (!term()) {
                return false;
            }
            for (int i = 0; i < MOST_BYTES && isWord(AND_WORD); i++) {
                advance();
                if (!term()) {
                    return false;
                }
                emit(Code.AND, 0);
            }
            return true;
        }

        private boolean term() {
            boolean turned = false;
            for (int i = 0; i < MOST_BYTES && isWord(NOT_WORD); i++) {
                advance();
                turned = !turned;
            }
            if (isSign('[')) {
                if (!openBracket() || !condition()) {
                    return false;
                }
                open--;
                if (!sign(']')) {
                    return false;
                }
            } else {
                if (!sum()) {
                    return false;
                }
                int compares = comparisonHere();
                if (compares == NONE) {
                    return refuse(NO_TEXT);
                }
                advance();
                if (!sum()) {
                    return false;
                }
                emit(compares, 0);
            }
            if (turned) {
                emit(Code.NOT, 0);
            }
            return true;
        }

        private int comparisonHere() {
            if (isSign('<')) {
                return Code.LESS;
            }
            if (isSign('>')) {
                return Code.MORE;
            }
            return isSign('=') ? Code.SAME : NONE;
        }

        private boolean sum() {
            if (!product()) {
                return false;
            }
            for (int i = 0; i < MOST_BYTES && (isSign('+') || isSign('-')); i++) {
                int joins = isSign('+') ? Code.ADD : Code.TAKE;
                advance();
                if (!product()) {
                    return false;
                }
                emit(joins, 0);
            }
            return true;
        }

        private boolean product() {
            if (!factor()) {
                return false;
            }
            for (int i = 0; i < MOST_BYTES && isSign('*'); i++) {
                advance();
                if (!factor()) {
                    return false;
                }
                emit(Code.TIMES, 0);
            }
            return true;
        }

        private boolean factor() {
            if (kind == FIGURES) {
                if (!numeral(0, MOST_NUMBER)) {
                    return false;
                }
                emit(Code.NUMBER, number);
                return true;
            }
            if (kind == WORD) {
                int name = valueAmong(0, nameCount);
                if (name == NONE) {
                    return refuse(NO_NAME);
                }
                emit(Code.NAME, name);
                advance();
                return true;
            }
            if (!isSign('(')) {
                return refuse(NO_TEXT);
            }
            if (!openBracket() || !sum()) {
                return false;
            }
            open--;
            return sign(')');
        }

        private boolean openBracket() {
            if (open >= MOST_BRACKETS) {
                return refuse(TOO_MANY);
            }
            open++;
            advance();
            return true;
        }

        private void emit(int kindOfStep, int operand) {
            if (stepCount >= 0 && stepCount < MOST_BYTES) {
                steps[stepCount] = operand * Code.WIDTH + kindOfStep;
                stepCount++;
            }
        }

        private Code stepsTaken() {
            int length = Math.max(0, Math.min(stepCount, MOST_BYTES));
            return new Code(Arrays.copyOf(steps, length));
        }

        // ---- the token at hand

        private boolean refuse(int kindOfFault) {
            fault = kindOfFault;
            faultPlace = start;
            return false;
        }

        private boolean numeral(int least, int most) {
            if (kind != FIGURES || value == NONE) {
                return refuse(NO_TEXT);
            }
            if (value < least || value > most) {
                return refuse(NO_NUMBER);
            }
            number = value;
            advance();
            return true;
        }

        private boolean word(int wanted) {
            if (!isWord(wanted)) {
                return refuse(NO_TEXT);
            }
            advance();
            return true;
        }

        private boolean sign(char wanted) {
            if (!isSign(wanted)) {
                return refuse(NO_TEXT);
            }
            advance();
            return true;
        }

        private boolean isWord(int wanted) {
            return kind == WORD && value == wanted;
        }

        private boolean isSign(char wanted) {
            return kind == SIGN && value == wanted;
        }

        /** Which of so many words from the first one on stands here; NONE if it is none of them. */
        private int valueAmong(int first, int count) {
            return kind == WORD && value >= first && value < first + count ? value - first : NONE;
        }

        /** Behind the last token stands the end of the text. */
        private void advance() {
            at++;
            boolean more = at >= 0 && at < tokenCount && at < MOST_BYTES;
            kind = more ? kinds[at] : TEXT_END;
            start = more ? starts[at] : size;
            stop = more ? stops[at] : size;
            value = more ? values[at] : NONE;
        }

        // ---- cutting the tape into tokens

        private void cut() {
            tokenCount = 0;
            int from = 0;
            while (from < size) {
                int sort = sortOf(from);
                int to = from + 1;
                while (sort != SIGN && to < size && sortOf(to) == sort) {
                    to++;
                }
                if (sort != BLANK) {
                    putToken(sort, from, to);
                }
                from = to;
            }
        }

        private void putToken(int sort, int from, int to) {
            int place = tokenCount;
            if (place < 0 || place >= MOST_BYTES) {
                return;
            }
            kinds[place] = sort;
            starts[place] = from;
            stops[place] = to;
            values[place] = sort == WORD ? wordValue(from, to) : sort == FIGURES ? numberValue(from, to) : byteAt(from);
            tokenCount++;
        }

        private int wordValue(int from, int to) {
            int name = indexIn(NAME_WORDS, from, to);
            if (name != NONE) {
                return name;
            }
            int other = indexIn(TEXT_WORDS, from, to);
            return other == NONE ? NONE : NAMES + other;
        }

        private int numberValue(int from, int to) {
            if (to - from > MOST_FIGURES) {
                return NONE;
            }
            int told = 0;
            for (int i = from; i < to; i++) {
                told = told * 10 + byteAt(i) - '0';
            }
            return told;
        }

        /** Which of some words, parted by one blank each, the bytes are; NONE if they are none of them. */
        private int indexIn(String words, int from, int to) {
            int index = 0;
            int first = 0;
            for (int i = 0; i <= words.length(); i++) {
                if (i == words.length() || words.charAt(i) == ' ') {
                    if (i - first == to - from && matches(words, first, i, from)) {
                        return index;
                    }
                    index++;
                    first = i + 1;
                }
            }
            return NONE;
        }

        private boolean matches(String words, int first, int last, int from) {
            for (int i = first; i >= 0 && i < last && i < words.length(); i++) {
                int place = from + i - first;
                if (place < 0 || place >= MOST_BYTES || words.charAt(i) != bytes[place]) {
                    return false;
                }
            }
            return true;
        }

        private int sortOf(int place) {
            int one = byteAt(place);
            if (one == ' ' || one == '\n') {
                return BLANK;
            }
            if (one >= 'a' && one <= 'z') {
                return WORD;
            }
            return one >= '0' && one <= '9' ? FIGURES : SIGN;
        }

        private int byteAt(int place) {
            return place >= 0 && place < MOST_BYTES ? bytes[place] : 0;
        }
    }

    /** Some funds to be grouped; its rows are made once for all calls. */
    static final class Grouping {
        long bestIdle;
        private int keep;
        private int size;
        private int bestGroups;
        private final int[] marks = new int[MOST_GROUPED];
        private final long[] spare = new long[MOST_GROUPED];
        private final int[] laid = new int[MOST_GROUPED];
        private final int[] groups = new int[MOST_GROUPED];
        private final int[] bestOf = new int[MOST_GROUPED];
        private final int[] members = new int[MOST_GROUPED];
        private final int[] common = new int[MOST_GROUPED];
        private final long[] together = new long[MOST_GROUPED];
        private final long[] needsFrom = new long[MOST_GROUPED + 1];
        private long leastOfAll;

        void clear(int marksToKeep) {
            keep = marksToKeep;
            size = 0;
            bestGroups = 0;
            bestIdle = 0;
            for (int i = 0; i < MOST_GROUPED; i++) {
                members[i] = 0;
                common[i] = ALL_MARKS;
                together[i] = 0;
            }
        }

        void take(int marksOfFund, long spareOfFund, int laidGroup) {
            if (size < 0 || size >= MOST_GROUPED) {
                return;
            }
            marks[size] = marksOfFund;
            spare[size] = spareOfFund;
            laid[size] = laidGroup;
            size++;
        }

        int bestGroupOf(int at) {
            return at >= 0 && at < size && at < MOST_GROUPED ? bestOf[at] : NONE;
        }

        long judgeLaid() {
            for (int i = 0; i < size && i < MOST_GROUPED; i++) {
                int group = laid[i];
                if (group < 0 || group >= MOST_GROUPED) {
                    return NOT_SO;
                }
                put(i, group);
                if (!holdsTogether(group)) {
                    return NOT_SO;
                }
            }
            return idleOf(MOST_GROUPED);
        }

        void search() {
            long all = 0;
            long needs = 0;
            needsFrom[MOST_GROUPED] = 0;
            for (int i = MOST_GROUPED - 1; i >= 0; i--) {
                if (i < size) {
                    all += spare[i];
                    needs += Math.max(0, -spare[i]);
                }
                needsFrom[i] = needs;
            }
            leastOfAll = Math.max(0, all);
            spread(0, 0);
        }

        /**
         * Puts each fund from this one on into each group that it may be in. Groups are tried from
         * the first one on, so of like groupings the first one is met first and stays the best.
         */
        private void spread(int at, int used) {
            if (at < 0 || at > MOST_GROUPED) {
                return;
            }
            // only needs still to come can make less what is idle so far
            long least = Math.max(leastOfAll, idleOf(used) - needsFrom[at]);
            if (bestGroups != 0 && (least > bestIdle || least == bestIdle && used >= bestGroups)) {
                return;
            }
            if (at >= size || at == MOST_GROUPED) {
                keepAsBest(least, used);
                return;
            }
            for (int group = 0; group <= used && group < MOST_GROUPED; group++) {
                int before = common[group];
                put(at, group);
                if (holdsTogether(group)) {
                    groups[at] = group;
                    spread(at + 1, group == used ? used + 1 : used);
                }
                members[group]--;
                together[group] -= spare[at];
                common[group] = before;
            }
        }

        private void keepAsBest(long idle, int used) {
            bestIdle = idle;
            bestGroups = used;
            for (int i = 0; i < size && i < MOST_GROUPED; i++) {
                bestOf[i] = groups[i];
            }
        }

        private void put(int at, int group) {
            if (at < 0 || at >= MOST_GROUPED || group < 0 || group >= MOST_GROUPED) {
                return;
            }
            members[group]++;
            together[group] += spare[at];
            common[group] &= marks[at];
        }

        private boolean holdsTogether(int group) {
            return group >= 0 && group < MOST_GROUPED
                    && (members[group] <= 1 || Integer.bitCount(common[group]) >= keep);
        }

        private long idleOf(int used) {
            long idle = 0;
            for (int i = 0; i < used && i < MOST_GROUPED; i++) {
                idle += Math.max(0, together[i]);
            }
            return idle;
        }
    }
}
