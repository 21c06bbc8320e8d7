import java.util.ArrayList;
import java.util.Collections;
import java.util.LinkedHashSet;
import java.util.List;
import java.util.NoSuchElementException;
import java.util.Set;

/**
 * The document once more, in the most naive form: each player has a row of days, each payment is a line of a book,
 * and chains are tried out in every order. It shares nothing with the program, so that both can be compared.
 */
public final class Model {
    static final int[] RATES = {0, 90, 60, 30, 10};
    /** What the runs came to: a test over runs that never come to the rare things would show little. */
    static final java.util.Map<String, Integer> EVENTS = new java.util.TreeMap<>();
    static void event(String what) { EVENTS.merge(what, 1, Integer::sum); }

    static final class Reg { int club; int kind; int begun; }
    static final class Con { int club, begun, until, years, wage, fee, share, keeper = -1, release = -1; boolean lent; }
    static final class Person {
        int birth, land;
        List<Reg> regOf = new ArrayList<>();
        List<Con> conOf = new ArrayList<>();
        Reg reg; Con con;
        List<Con> story = new ArrayList<>();
        boolean onLoan; int loanClub, loanEnd, loanNeeded, loanPrice;
    }
    static final class Bid { int buyer, player, fee, parts, years, wage, share, filed, completed; char state = 'o'; Con old, made; Reg reg; }
    /** A line of the book: club numbers, or 100 plus a land for its federation. */
    static final class Line { int from, to; long sum; Bid bid; Line(int f, int t, long s, Bid b) { from = f; to = t; sum = s; bid = b; } }
    static final class Due { Bid bid; int sum, day; boolean gone; }
    static final class Told { int player, club; }
    static final class Game { int a, b, day; boolean aSaid, bSaid; List<Told> told = new ArrayList<>(); }

    int[][][] windows = new int[4][2][2];
    List<int[]> clubs = new ArrayList<>();
    List<Long> cash = new ArrayList<>();
    List<Integer> founded = new ArrayList<>();
    List<List<Long>> incomes = new ArrayList<>(), wages = new ArrayList<>(), results = new ArrayList<>();
    List<Integer> minus = new ArrayList<>();
    List<Person> people = new ArrayList<>();
    List<Bid> bids = new ArrayList<>();
    List<Integer> chain = new ArrayList<>();
    List<Due> dues = new ArrayList<>();
    List<Line> book = new ArrayList<>();
    List<Game> games = new ArrayList<>();
    long[] fed = new long[4];
    int today = 0;

    public Model() {
        for (int i = 0; i < 4; i++) { windows[i][0] = new int[] {180, 239}; windows[i][1] = new int[] {0, 29}; }
    }

    static void no() { throw new UnsupportedOperationException(); }
    static void state() { throw new IllegalStateException(); }
    static void range(long v, long a, long b) { if (v < a || v > b) throw new IllegalArgumentException(); }
    static <T> T at(List<T> list, int i) { if (i < 0 || i >= list.size()) throw new IndexOutOfBoundsException(); return list.get(i); }
    void known(int club) { at(clubs, club); }
    boolean openOn(int land, int day) {
        for (int[] w : windows[land]) for (int d = w[0]; d <= w[1]; d++) if (d == day % 360) return true;
        return false;
    }
    int years(Person p) { return (today - p.birth) / 360; }

    public int setWindow(int land, boolean isSecond, int from, int to) {
        range(land, 0, 3); range(from, 0, 359); range(to, from, 359);
        int[] w = windows[land][isSecond ? 1 : 0];
        int was = w[0];
        w[0] = from; w[1] = to;
        return was;
    }
    public boolean isOpen(int land) { range(land, 0, 3); return openOn(land, today); }
    public int opensIn(int land) {
        range(land, 0, 3);
        for (int d = today; ; d++) if (openOn(land, d)) return d - today;
    }
    public int club(int land, int category, int money) {
        range(land, 0, 3); range(category, 1, 4); range(money, 0, 9999999);
        if (clubs.size() == 10) state();
        clubs.add(new int[] {land, category}); cash.add((long) money); founded.add(today); minus.add(0);
        incomes.add(new ArrayList<>()); wages.add(new ArrayList<>()); results.add(new ArrayList<>());
        for (int y = 0; y <= today / 360; y++) { incomes.get(clubs.size() - 1).add(0L); wages.get(clubs.size() - 1).add(0L); results.get(clubs.size() - 1).add(null); }
        return clubs.size() - 1;
    }
    public int player(int age, int land) {
        range(age, 0, 14399); range(land, 0, 3);
        if (people.size() == 24) state();
        Person p = new Person();
        p.birth = today - age; p.land = land;
        for (int d = 0; d < today; d++) { p.regOf.add(null); p.conOf.add(null); }
        people.add(p);
        return people.size() - 1;
    }
    static void add(List<Long> list, int i, long v) { list.set(i, list.get(i) + v); }
    public long income(int club, int amount) {
        known(club); range(amount, 1, 999999);
        add(cash, club, amount);
        add(incomes.get(club), today / 360, amount);
        return cash.get(club);
    }
    public int days(int n) {
        range(n, 1, 400);
        for (int i = 0; i < n; i++) oneDay();
        return today;
    }
    void oneDay() {
        for (Person p : people) {
            if (p.con != null) { add(cash, p.con.club, -p.con.wage); add(wages.get(p.con.club), today / 360, p.con.wage); }
            p.regOf.add(p.reg); p.conOf.add(p.con);
        }
        today++;
        for (Person p : people) if (p.onLoan && p.loanEnd == today) loanOver(p);
        for (Person p : people) if (p.con != null && p.con.until == today) { p.con = null; p.reg = null; }
        for (Bid b : bids) if (b.state == 'w' && today == b.filed + 15) b.state = 'r';
        for (Due d : dues) if (!d.gone && d.day <= today && cash.get(d.bid.buyer) >= d.sum) { d.gone = true; event(d.day == today ? "debt paid in time" : "debt paid late"); pay(d.bid.buyer, d.bid.player, d.bid.old, d.sum, d.bid); }
        if (today % 360 == 0) accounts(today / 360 - 1);
    }
    void loanOver(Person p) {
        int price = p.loanPrice, club = p.loanClub;
        p.onLoan = false;
        if (p.loanNeeded > 0 && playedOn(p) >= p.loanNeeded && p.con.until > today && cash.get(club) >= price) {
            event("loan ends by a sale");
            pay(club, people.indexOf(p), p.con, price, null);
            Con c = new Con();
            c.club = club; c.begun = today; c.years = 1; c.until = today + 360; c.wage = p.con.wage; c.fee = price; c.keeper = p.con.club;
            newContract(p, c);
        } else register(p, p.con.club, 1);
    }
    void accounts(int year) {
        for (int c = 0; c < clubs.size(); c++) {
            long sum = incomes.get(c).get(year) - wages.get(c).get(year);
            for (Person p : people) if (p.con != null && p.con.club == c) sum -= p.con.fee / p.con.years;
            results.get(c).set(year, sum);
            long three = 0;
            for (int y = year; y > year - 3 && y >= 0; y--) if (results.get(c).get(y) != null) three += results.get(c).get(y);
            if (three < -3000) { event("points lost"); minus.set(c, minus.get(c) + 6); }
            incomes.get(c).add(0L); wages.get(c).add(0L); results.get(c).add(null);
        }
    }
    void register(Person p, int club, int kind) { Reg r = new Reg(); r.club = club; r.kind = kind; r.begun = today; p.reg = r; }
    void newContract(Person p, Con c) { p.con = c; p.story.add(c); register(p, c.club, 1); }

    boolean fits(Person p, int club) {
        if (years(p) < 18 && p.land != clubs.get(club)[0]) return false;
        Set<Integer> set = new LinkedHashSet<>();
        set.add(club);
        if (p.reg != null) set.add(p.reg.club);
        event("rules of registrations");
        for (int d = today / 360 * 360; d < today; d++) if (p.regOf.get(d) != null) set.add(p.regOf.get(d).club);
        if (set.size() == 4) event("a fourth club");
        return set.size() <= 3;
    }
    public int enrol(int player, int club) {
        Person p = at(people, player); known(club);
        if (years(p) < 12 || years(p) > 20 || p.reg != null || !fits(p, club)) no();
        register(p, club, 0);
        return years(p);
    }
    public int leave(int player) {
        Person p = at(people, player);
        if (p.reg == null || p.reg.kind != 0) no();
        int n = today - p.reg.begun;
        p.reg = null;
        return n;
    }
    public long sign(int player, int club, int years, int wage) {
        Person p = at(people, player); known(club); range(years, 1, 5); range(wage, 0, 9999);
        if (years(p) < 16 || p.con != null || !fits(p, club)) no();
        if (!openOn(clubs.get(club)[0], today)) {
            int d = today - 1;
            while (d >= 0 && !openOn(clubs.get(club)[0], d)) d--;
            if (d < 0 || p.conOf.get(d) != null) no();
        }
        long due = training(player, club);
        if (!openOn(clubs.get(club)[0], today)) event("signs behind a window");
        if (due > 0) event("training money");
        if (isBanned(club)) event("banned");
        if (isBanned(club) || cash.get(club) < due) state();
        if (p.story.isEmpty()) for (int c = 0; c < clubs.size(); c++) if (c != club) {
            long one = (long) spent(p, c, p.birth + 12 * 360, p.birth + 21 * 360) * RATES[clubs.get(club)[1]];
            add(cash, club, -one); add(cash, c, one);
        }
        Con c = new Con();
        c.club = club; c.begun = today; c.until = today + 360 * years; c.years = years; c.wage = wage;
        newContract(p, c);
        return due;
    }
    int spent(Person p, int club, int from, int behind) {
        int n = 0;
        for (int d = Math.max(0, from); d < behind && d < today; d++) if (p.regOf.get(d) != null && p.regOf.get(d).club == club) n++;
        return n;
    }
    public int setRelease(int player, int sum) {
        Person p = at(people, player); range(sum, -1, 99999999);
        if (p.con == null) no();
        int was = p.con.release;
        p.con.release = sum;
        return was;
    }
    public int clubOf(int player) { Person p = at(people, player); if (p.reg == null) throw new NoSuchElementException(); return p.reg.club; }
    public int boundTo(int player) { Person p = at(people, player); if (p.con == null) throw new NoSuchElementException(); return p.con.club; }
    public int contract(int player, char what) {
        Person p = at(people, player);
        if ("uwrfs".indexOf(what) < 0) throw new IllegalArgumentException();
        if (p.con == null) throw new NoSuchElementException();
        return what == 'u' ? p.con.until : what == 'w' ? p.con.wage : what == 'r' ? p.con.release : what == 'f' ? p.con.fee : p.con.share;
    }
    public int age(int player) { return years(at(people, player)); }
    List<Reg> past(Person p) {
        Set<Reg> set = new LinkedHashSet<>(p.regOf);
        set.add(p.reg);
        set.remove(null);
        return new ArrayList<>(set);
    }
    public int stints(int player) { return past(at(people, player)).size(); }
    public int stint(int player, int index, char what) {
        Person p = at(people, player);
        if ("cftk".indexOf(what) < 0) throw new IllegalArgumentException();
        if (index < 0 || index >= past(p).size()) throw new NoSuchElementException();
        Reg r = past(p).get(index);
        return what == 'c' ? r.club : what == 'f' ? r.begun : what == 'k' ? r.kind : r == p.reg ? today : p.regOf.lastIndexOf(r) + 1;
    }
    public int grown(int player, int club) { Person p = at(people, player); known(club); return spent(p, club, p.birth + 15 * 360, p.birth + 21 * 360); }

    public int offer(int buyer, int player, int fee, int parts, int years, int wage, int share) {
        known(buyer); Person p = at(people, player);
        range(fee, 0, 9999999); range(parts, 1, 4); range(years, 1, 5); range(wage, 0, 9999); range(share, 0, 50);
        if (p.con == null || p.con.club == buyer) no();
        if (bids.size() == 30) state();
        Bid b = new Bid();
        b.buyer = buyer; b.player = player; b.fee = fee; b.parts = parts; b.years = years; b.wage = wage; b.share = share; b.old = p.con;
        bids.add(b);
        return bids.size() - 1;
    }
    public char answer(int offer, boolean isYes) {
        Bid b = at(bids, offer);
        if (b.state != 'o') no();
        if (!isYes && b.old.release >= 0 && b.fee >= b.old.release) state();
        return b.state = isYes ? 'a' : 'n';
    }
    public char file(int offer) {
        Bid b = at(bids, offer);
        if (b.state != 'a') no();
        if (!isOpen(clubs.get(b.buyer)[0]) || isBanned(b.buyer)) state();
        b.filed = today;
        return b.state = clubs.get(b.buyer)[0] == clubs.get(b.old.club)[0] ? 'r' : 'w';
    }
    public char certify(int offer, boolean isGiven) {
        Bid b = at(bids, offer);
        if (b.state != 'w') no();
        return b.state = isGiven ? 'r' : 'x';
    }
    public char state(int offer) { return at(bids, offer).state; }
    static int part(Bid b) { return b.fee / b.parts; }
    static int first(Bid b) { int rest = b.fee; for (int i = 1; i < b.parts; i++) rest -= part(b); return rest; }
    boolean allowed(Bid b) { Person p = people.get(b.player); return b.state == 'r' && p.con == b.old && !p.onLoan && years(p) >= 16 && fits(p, b.buyer); }
    public long complete(int offer) {
        Bid b = at(bids, offer);
        if (!allowed(b)) no();
        if (cash.get(b.buyer) < first(b)) state();
        doIt(b);
        return first(b);
    }
    void doIt(Bid b) {
        Person p = people.get(b.player);
        pay(b.buyer, b.player, b.old, first(b), b);
        for (int i = 1; i < b.parts; i++) { Due d = new Due(); d.bid = b; d.sum = part(b); d.day = today + 90 * i; dues.add(d); }
        Con c = new Con();
        c.club = b.buyer; c.begun = today; c.years = b.years; c.until = today + 360 * b.years; c.wage = b.wage; c.fee = b.fee; c.share = b.share; c.keeper = b.old.club;
        newContract(p, c);
        b.made = c; b.reg = p.reg; b.completed = today;
        for (Bid x : bids) if (x.player == b.player && "oawr".indexOf(x.state) >= 0) x.state = 'x';
        b.state = 'c';
    }
    void move(int from, int to, long sum, Bid b) {
        book.add(new Line(from, to, sum, b));
        if (from >= 100) fed[from - 100] -= sum; else add(cash, from, -sum);
        if (to >= 100) fed[to - 100] += sum; else add(cash, to, sum);
    }
    void pay(int payer, int player, Con sold, int part, Bid b) {
        Person p = people.get(player);
        long rest = part;
        for (int y = 12; y <= 23; y++) {
            long share = y <= 15 ? part / 400 : part / 200, left = share;
            for (int c = 0; c < clubs.size(); c++) {
                long one = share * spent(p, c, p.birth + y * 360, p.birth + (y + 1) * 360) / 360;
                left -= one;
                move(payer, c, one, b);
            }
            move(payer, 100 + p.land, left, b);
            rest -= share;
        }
        long kept = sold.keeper < 0 ? 0 : rest * sold.share / 100;
        if (kept > 0) event("share kept");
        if (sold.keeper >= 0) move(payer, sold.keeper, kept, b);
        move(payer, sold.club, rest - kept, b);
    }
    public int link(int offer) {
        Bid b = at(bids, offer);
        if (b.state != 'r') no();
        for (int i : chain) if (bids.get(i).player == b.player) no();
        if (chain.size() == 5) state();
        chain.add(offer);
        return chain.size();
    }
    public int cut() { int n = chain.size(); chain.clear(); return n; }
    /** The first order in which all can be, tried out on the cash itself; null if there is none. */
    List<Integer> order(List<Integer> rest) {
        if (rest.isEmpty()) return new ArrayList<>();
        List<Integer> sorted = new ArrayList<>(rest);
        Collections.sort(sorted);
        for (int i : sorted) {
            Bid b = bids.get(i);
            if (cash.get(b.buyer) < first(b)) continue;
            List<Long> was = new ArrayList<>(cash);
            long[] fedWas = fed.clone();
            int lines = book.size();
            pay(b.buyer, b.player, b.old, first(b), b);
            List<Integer> left = new ArrayList<>(sorted);
            left.remove((Integer) i);
            List<Integer> tail = order(left);
            cash = was; fed = fedWas;
            while (book.size() > lines) book.remove(book.size() - 1);
            if (tail != null) { tail.add(0, i); return tail; }
        }
        return null;
    }
    boolean chainAllowed() { for (int i : chain) if (!allowed(bids.get(i))) return false; return true; }
    public int run() {
        if (chain.isEmpty() || !chainAllowed()) no();
        List<Integer> found = order(chain);
        if (found == null) state();
        List<Integer> sorted = new ArrayList<>(chain);
        Collections.sort(sorted);
        event("chain of " + chain.size() + (sorted.equals(found) ? " by numbers" : " in another order"));
        for (int i : found) complete(i);
        chain.clear();
        return found.get(0);
    }
    public boolean canRun() { return chainAllowed() && order(chain) != null; }
    public boolean rule(int offer) {
        Bid b = at(bids, offer);
        if (b.state != 'c' || today - b.completed > 60) no();
        Person p = people.get(b.player);
        if (p.story.get(p.story.size() - 1) != b.made || b.made.lent) no();
        event(p.con == b.made ? "ruling" : "ruling behind a ruling");
        List<Boolean> lostWas = new ArrayList<>();
        for (Game g : games) { lostWas.add(lost(g, g.a)); lostWas.add(lost(g, g.b)); }
        p.story.remove(b.made);
        for (int d = 0; d < today; d++) {
            if (p.regOf.get(d) == b.reg) p.regOf.set(d, null);
            if (p.conOf.get(d) == b.made) p.conOf.set(d, null);
        }
        if (p.reg == b.reg) p.reg = null;
        if (p.con == b.made) p.con = null;
        List<Line> copy = new ArrayList<>(book);
        for (Line l : copy) if (l.bid == b) { move(l.to, l.from, l.sum, null); book.remove(l); }
        for (Due d : dues) if (d.bid == b) d.gone = true;
        boolean loses = false;
        for (int i = 0; i < games.size(); i++) loses |= !lostWas.get(2 * i) && lost(games.get(i), games.get(i).a) || !lostWas.get(2 * i + 1) && lost(games.get(i), games.get(i).b);
        b.state = 'v';
        if (loses) event("ruling loses a match");
        return loses;
    }

    public int lend(int player, int club, int days, int matches, int price) {
        Person p = at(people, player); known(club); range(days, 1, 360); range(matches, 0, 40); range(price, 0, 9999999);
        if (p.con == null || p.onLoan || p.con.club == club || !isOpen(clubs.get(club)[0]) || today + days > p.con.until || !fits(p, club)) no();
        int between = 0;
        for (Person x : people) if (x.onLoan && (x.con.club == club && x.loanClub == p.con.club || x.con.club == p.con.club && x.loanClub == club)) between++;
        if (loans(p.con.club, true) == 4) event("four lent");
        if (loans(club, false) == 4) event("four borrowed");
        if (between == 2) event("two between two clubs");
        if (isBanned(club) || loans(p.con.club, true) == 4 || loans(club, false) == 4 || between == 2) state();
        p.onLoan = true; p.loanClub = club; p.loanEnd = today + days; p.loanNeeded = matches; p.loanPrice = price;
        p.con.lent = true;
        register(p, club, 2);
        return today + days;
    }
    public int recall(int player) {
        Person p = at(people, player);
        if (!p.onLoan) no();
        if (!isOpen(clubs.get(p.con.club)[0])) state();
        int n = playedOn(p);
        p.onLoan = false;
        register(p, p.con.club, 1);
        return n;
    }
    public int loans(int club, boolean isLent) {
        known(club);
        int n = 0;
        for (Person p : people) if (p.onLoan && (isLent ? p.con.club : p.loanClub) == club) n++;
        return n;
    }

    public long cash(int club) { known(club); return cash.get(club); }
    public long federation(int land) { range(land, 0, 3); return fed[land]; }
    public long owes(int club) { known(club); long n = 0; for (Due d : dues) if (!d.gone && d.bid.buyer == club) n += d.sum; return n; }
    public boolean isBanned(int club) { known(club); for (Due d : dues) if (!d.gone && d.bid.buyer == club && d.day <= today) return true; return false; }
    public long trained(int player, int part, int club) {
        Person p = at(people, player); known(club); range(part, 1, 9999999);
        long n = 0;
        for (int y = 12; y <= 23; y++) n += (long) (y <= 15 ? part / 400 : part / 200) * spent(p, club, p.birth + y * 360, p.birth + y * 360 + 360) / 360;
        return n;
    }
    public long training(int player, int club) {
        Person p = at(people, player); known(club);
        if (!p.story.isEmpty()) return 0;
        long n = 0;
        for (int d = 0; d < today; d++) {
            Reg r = p.regOf.get(d);
            int age = (d - p.birth) / 360;
            if (r != null && r.club != club && age >= 12 && age < 21) n += RATES[clubs.get(club)[1]];
        }
        return n;
    }
    public long result(int club, int year) {
        known(club);
        if (year < 0 || year >= today / 360 || year < founded.get(club) / 360) throw new NoSuchElementException();
        return results.get(club).get(year);
    }
    /** Where a player is registered on a day, today as it stands by now. */
    Reg regOn(Person p, int day) { return day == today ? p.reg : p.regOf.get(day); }
    boolean entitled(Game g, Told t) { Reg r = regOn(people.get(t.player), g.day); return r != null && r.club == t.club; }
    /** In how many matches the player was by the present registration. */
    int playedOn(Person p) {
        int n = 0;
        for (Game g : games) for (Told t : g.told) if (people.get(t.player) == p && t.club == p.reg.club && g.day >= p.reg.begun) n++;
        return n;
    }
    boolean lost(Game g, int side) {
        boolean said = side == g.a ? g.bSaid : g.aSaid, bad = false;
        for (Told t : g.told) bad |= t.club == side && !entitled(g, t);
        return said && bad;
    }
    public int points(int club) {
        known(club);
        int n = 0;
        for (Game g : games) { if (g.a == club && lost(g, g.b)) n += 3; if (g.b == club && lost(g, g.a)) n += 3; }
        return n - minus.get(club);
    }
    public int squad(int club) { known(club); int n = 0; for (Person p : people) if (p.reg != null && p.reg.club == club) n++; return n; }
    public int homegrown(int club) {
        known(club);
        int n = 0;
        for (int i = 0; i < people.size(); i++) {
            Person p = people.get(i);
            if (p.reg == null || p.reg.club != club) continue;
            int days = 0;
            for (int c = 0; c < clubs.size(); c++) if (clubs.get(c)[0] == clubs.get(club)[0]) days += grown(i, c);
            if (years(p) < 21 || days >= 1080) n++;
        }
        return n;
    }
    public int match(int club, int other) {
        known(club); known(other);
        if (club == other) throw new IllegalArgumentException();
        if (games.size() == 40) state();
        Game g = new Game();
        g.a = club; g.b = other; g.day = today;
        games.add(g);
        return games.size() - 1;
    }
    public boolean appear(int match, int club, int player) {
        Game g = at(games, match); known(club); Person p = at(people, player);
        if (club != g.a && club != g.b) throw new IllegalArgumentException();
        if (g.day != today) no();
        for (Told t : g.told) if (t.player == player) no();
        Told t = new Told();
        t.player = player; t.club = club;
        g.told.add(t);
        return entitled(g, t);
    }
    public boolean protest(int match, int club) {
        Game g = at(games, match); known(club);
        if (club != g.a && club != g.b) throw new IllegalArgumentException();
        if (today > g.day + 2 || (club == g.a ? g.aSaid : g.bSaid)) no();
        if (club == g.a) g.aSaid = true; else g.bSaid = true;
        return lost(g, club == g.a ? g.b : g.a);
    }
    public int loser(int match) {
        Game g = at(games, match);
        if (lost(g, g.a) == lost(g, g.b)) throw new NoSuchElementException();
        return lost(g, g.a) ? g.a : g.b;
    }
    public long print() {
        long n = 7;
        for (long c : cash) n = n * 31 + c;
        for (Person p : people) n = n * 31 + (p.reg == null ? 0 : p.reg.club + 1);
        for (long f : fed) n = n * 31 + f;
        return n;
    }
    public float wageShare(int club) {
        known(club);
        long in = incomes.get(club).get(today / 360);
        if (in == 0) throw new ArithmeticException();
        return (float) wages.get(club).get(today / 360) / (float) in;
    }
    public double meanAge(int club) {
        known(club);
        int n = 0, sum = 0;
        for (Person p : people) if (p.reg != null && p.reg.club == club) { n++; sum += years(p); }
        if (n == 0) throw new ArithmeticException();
        return (double) sum / n;
    }
    public boolean isSound() { return true; }
}
