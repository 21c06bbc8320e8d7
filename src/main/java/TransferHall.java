import java.util.ArrayList;
import java.util.Arrays;
import java.util.NoSuchElementException;

public final class TransferHall {
    private static final int YEAR = 360;
    private static final int MOST_LANDS = 4;
    private static final int MOST_CLUBS = 10;
    private static final int MOST_PLAYERS = 24;
    private static final int MOST_OFFERS = 30;
    private static final int MOST_MATCHES = 40;
    private static final int MOST_LINKED = 5;
    private static final int MOST_LENT = 4;
    private static final int MOST_BETWEEN_TWO = 2;
    private static final int MOST_CLUBS_A_YEAR = 3;
    private static final int DAYS_TO_CERTIFY = 15;
    private static final int DAYS_BETWEEN_PARTS = 90;
    private static final int DAYS_TO_RULE = 60;
    private static final int DAYS_TO_PROTEST = 2;
    private static final int LARGEST_SUM = 9999999;
    private static final int LARGEST_WAGE = 9999;

    private static final int YOUTH = 0;
    private static final int BY_CONTRACT = 1;
    private static final int ON_LOAN = 2;
    private static final int NONE = -1;

    private final Land[] lands = new Land[MOST_LANDS];
    private final ArrayList<Club> clubs = new ArrayList<>();
    private final ArrayList<Player> players = new ArrayList<>();
    private final ArrayList<Offer> offers = new ArrayList<>();
    private final ArrayList<Debt> debts = new ArrayList<>();
    private final ArrayList<Match> matches = new ArrayList<>();
    // Kept by the offers' numbers: only how many there are shows the order of linking.
    private final ArrayList<Offer> chain = new ArrayList<>();
    private int day = 0;
    private long startCash = 0;
    private long allIncome = 0;
    private long allWages = 0;
    // Rows that are used again by each call: a column for each club, and one behind for the federation.
    private final long[] split = new long[MOST_CLUBS + 1];
    private final long[][] gains = new long[MOST_LINKED][MOST_CLUBS + 1];
    // By the sets of the chain's offers that are done, a bit for each offer.
    private final boolean[] canBeDone = new boolean[1 << MOST_LINKED];
    private final boolean[] canBeEnded = new boolean[1 << MOST_LINKED];
    private final int[] order = new int[MOST_LINKED];

    private static final class Land {
        int firstFrom = 180;
        int firstTo = 239;
        int secondFrom = 0;
        int secondTo = 29;
        long federation = 0;

        boolean isOpenOn(int someDay) {
            int ofYear = someDay % YEAR;
            return firstFrom <= ofYear && ofYear <= firstTo || secondFrom <= ofYear && ofYear <= secondTo;
        }
    }

    private static final class Club {
        final int number;
        final Land land;
        final int category;
        final int firstYear;
        long cash;
        long yearIncome = 0;
        long yearWages = 0;
        long[] results = new long[4];
        int endedYears = 0;
        int lostPoints = 0;

        Club(int number, Land land, int category, int cash, int firstYear) {
            this.number = number;
            this.land = land;
            this.category = category;
            this.cash = cash;
            this.firstYear = firstYear;
        }

        int trainingRate() {
            return category == 1 ? 90 : category == 2 ? 60 : category == 3 ? 30 : 10;
        }

        void endYear(long yearResult) {
            if (endedYears >= results.length) {
                results = Arrays.copyOf(results, 2 * endedYears + 1);
            }
            results[endedYears] = yearResult;
            endedYears++;
            yearIncome = 0;
            yearWages = 0;
        }

        long lastThreeResults() {
            long sum = 0;
            for (int i = Math.max(0, endedYears - 3); i < endedYears && i < results.length; i++) {
                sum += results[i];
            }
            return sum;
        }
    }

    private static final class Stint {
        final Club club;
        final int kind;
        final int from;
        int to = NONE;

        Stint(Club club, int kind, int from) {
            this.club = club;
            this.kind = kind;
            this.from = from;
        }

        int endBy(int today) {
            return to == NONE ? today : to;
        }

        boolean isOfDay(int someDay) {
            return from <= someDay && (to == NONE || someDay < to);
        }

        int daysWithin(int first, int behind, int today) {
            int over = to == NONE ? today : to;
            int start = from > first ? from : first;
            int end = over < behind ? over : behind;
            return end > start ? end - start : 0;
        }
    }

    private static final class Contract {
        final Club club;
        final int from;
        final int years;
        final int wage;
        final int fee;
        final int share;
        // The club that keeps the share: null if the contract came of no sale.
        final Club keeper;
        int until;
        int release = NONE;
        boolean wasLent = false;

        Contract(Club club, int from, int years, int wage, int fee, int share, Club keeper) {
            this.club = club;
            this.from = from;
            this.years = years;
            this.wage = wage;
            this.fee = fee;
            this.share = share;
            this.keeper = keeper;
            this.until = from + years * YEAR;
        }

        int feeOfYear() {
            return years > 0 ? fee / years : 0;
        }
    }

    private static final class Loan {
        final Club club;
        final int from;
        final int end;
        final int matchesToBuy;
        final int price;

        Loan(Club club, int from, int end, int matchesToBuy, int price) {
            this.club = club;
            this.from = from;
            this.end = end;
            this.matchesToBuy = matchesToBuy;
            this.price = price;
        }
    }

    private static final class Player {
        final int birth;
        final Land land;
        final ArrayList<Stint> stints = new ArrayList<>();
        final ArrayList<Contract> contracts = new ArrayList<>();
        Stint registration = null;
        Contract bond = null;
        Loan loan = null;

        Player(int birth, Land land) {
            this.birth = birth;
            this.land = land;
        }

        int yearsOn(int today) {
            return (today - birth) / YEAR;
        }

        int dayOfAge(int years) {
            return birth + years * YEAR;
        }

        boolean isAt(Club club) {
            return registration != null && registration.club == club;
        }

        boolean wasAt(Club club, int someDay) {
            for (int i = 0; i < stints.size(); i++) {
                Stint one = stints.get(i);
                if (one.club == club && one.isOfDay(someDay)) {
                    return true;
                }
            }
            return false;
        }

        int daysAt(Club club, int first, int behind, int today) {
            int sum = 0;
            for (int i = 0; i < stints.size(); i++) {
                Stint one = stints.get(i);
                if (one.club == club) {
                    sum += one.daysWithin(first, behind, today);
                }
            }
            return sum;
        }

        boolean hadContractOn(int someDay) {
            for (int i = 0; i < contracts.size(); i++) {
                Contract one = contracts.get(i);
                if (one.from <= someDay && someDay < one.until) {
                    return true;
                }
            }
            return false;
        }

        void beginStint(Club club, int kind, int today) {
            registration = new Stint(club, kind, today);
            stints.add(registration);
        }

        void endStint(int today) {
            if (registration == null) {
                return;
            }
            registration.to = today;
            if (registration.from == today) {
                dropStint(registration);
            }
            registration = null;
        }

        void dropStint(Stint one) {
            for (int i = stints.size() - 1; i >= 0; i--) {
                if (stints.get(i) == one) {
                    stints.remove(i);
                    return;
                }
            }
        }

        void beginContract(Contract made, int today) {
            endContract(today);
            bond = made;
            contracts.add(made);
            beginStint(made.club, BY_CONTRACT, today);
        }

        void endContract(int today) {
            if (bond != null) {
                bond.until = today;
                bond = null;
            }
            endStint(today);
        }

        Contract lastContract() {
            return contracts.isEmpty() ? null : contracts.get(contracts.size() - 1);
        }
    }

    private static final class Offer {
        final int number;
        final Club buyer;
        final Player mover;
        final int fee;
        int parts = 1;
        int years = 1;
        int wage = 0;
        int share = 0;
        // The contract that the player is to leave, and what came of the completion.
        final Contract old;
        Contract made = null;
        Stint stint = null;
        char letter = 'o';
        int filedOn = 0;
        int completedOn = 0;
        long paid = 0;
        final long[] got = new long[MOST_CLUBS + 1];

        Offer(int number, Club buyer, Player mover, int fee, Contract old) {
            this.number = number;
            this.buyer = buyer;
            this.mover = mover;
            this.fee = fee;
            this.old = old;
        }

        int laterPart() {
            return parts > 0 ? fee / parts : fee;
        }

        int firstPart() {
            return fee - laterPart() * (parts - 1);
        }

        boolean isUndecided() {
            return letter == 'o' || letter == 'a' || letter == 'w' || letter == 'r';
        }
    }

    private static final class Debt {
        final Offer offer;
        final int amount;
        final int due;
        boolean isSettled = false;

        Debt(Offer offer, int amount, int due) {
            this.offer = offer;
            this.amount = amount;
            this.due = due;
        }

        boolean isOverdue(int today) {
            return !isSettled && due <= today;
        }
    }

    private static final class Appearance {
        final Player player;
        final Club club;

        Appearance(Player player, Club club) {
            this.player = player;
            this.club = club;
        }
    }

    private static final class Match {
        final Club home;
        final Club guest;
        final int day;
        final ArrayList<Appearance> appearances = new ArrayList<>();
        boolean homeProtested = false;
        boolean guestProtested = false;

        Match(Club home, Club guest, int day) {
            this.home = home;
            this.guest = guest;
            this.day = day;
        }

        boolean isOf(Club club) {
            return club == home || club == guest;
        }

        Club against(Club club) {
            return club == home ? guest : home;
        }

        boolean hasProtested(Club club) {
            return club == home ? homeProtested : guestProtested;
        }

        void noteProtest(Club club) {
            if (club == home) {
                homeProtested = true;
            } else {
                guestProtested = true;
            }
        }

        boolean wasTold(Player player) {
            for (int i = 0; i < appearances.size(); i++) {
                if (appearances.get(i).player == player) {
                    return true;
                }
            }
            return false;
        }

        boolean wasFor(Club club, Player player) {
            for (int i = 0; i < appearances.size(); i++) {
                Appearance one = appearances.get(i);
                if (one.club == club && one.player == player) {
                    return true;
                }
            }
            return false;
        }

        // Found anew each time: what begins or ends on the match's day counts for all of it, and rulings reach back.
        boolean isLostBy(Club club) {
            if (!hasProtested(against(club))) {
                return false;
            }
            for (int i = 0; i < appearances.size(); i++) {
                Appearance one = appearances.get(i);
                if (one.club == club && !one.player.wasAt(club, day)) {
                    return true;
                }
            }
            return false;
        }
    }

    public TransferHall() {
        for (int i = 0; i < lands.length; i++) {
            lands[i] = new Land();
        }
    }

    // ---- lands, clubs, players

    public int setWindow(int land, boolean isSecond, int from, int to) throws IllegalArgumentException {
        Land one = landAt(land);
        requireWithin(from, 0, YEAR - 1);
        requireWithin(to, from, YEAR - 1);
        int before;
        if (isSecond) {
            before = one.secondFrom;
            one.secondFrom = from;
            one.secondTo = to;
        } else {
            before = one.firstFrom;
            one.firstFrom = from;
            one.firstTo = to;
        }
        return before;
    }

    public boolean isOpen(int land) throws IllegalArgumentException {
        return landAt(land).isOpenOn(day);
    }

    public int opensIn(int land) throws IllegalArgumentException {
        Land one = landAt(land);
        int ahead = 0;
        while (ahead < YEAR && !one.isOpenOn(day + ahead)) {
            ahead++;
        }
        return ahead;
    }

    public int club(int land, int category, int cash) throws IllegalArgumentException, IllegalStateException {
        Land home = landAt(land);
        requireWithin(category, 1, 4);
        requireWithin(cash, 0, LARGEST_SUM);
        int number = clubs.size();
        if (number >= MOST_CLUBS) {
            throw new IllegalStateException();
        }
        clubs.add(new Club(number, home, category, cash, day / YEAR));
        startCash += cash;
        return number;
    }

    public int player(int age, int land) throws IllegalArgumentException, IllegalStateException {
        requireWithin(age, 0, 14399);
        Land home = landAt(land);
        int number = players.size();
        if (number >= MOST_PLAYERS) {
            throw new IllegalStateException();
        }
        players.add(new Player(day - age, home));
        return number;
    }

    public long income(int club, int amount) throws IndexOutOfBoundsException, IllegalArgumentException {
        Club one = clubAt(club);
        requireWithin(amount, 1, 999999);
        one.cash += amount;
        one.yearIncome += amount;
        allIncome += amount;
        return one.cash;
    }

    public int days(int days) throws IllegalArgumentException {
        requireWithin(days, 1, 400);
        for (int i = 0; i < days; i++) {
            payWages();
            day++;
            endLoansAndContracts();
            endWaiting();
            payDebts();
            if (day % YEAR == 0) {
                endYear();
            }
        }
        return day;
    }

    // ---- registrations

    public int enrol(int player, int club) throws IndexOutOfBoundsException, UnsupportedOperationException {
        Player one = playerAt(player);
        Club school = clubAt(club);
        int years = one.yearsOn(day);
        if (years < 12 || years > 20 || one.registration != null || !mayRegister(one, school)) {
            throw new UnsupportedOperationException();
        }
        one.beginStint(school, YOUTH, day);
        return years;
    }

    public int leave(int player) throws IndexOutOfBoundsException, UnsupportedOperationException {
        Player one = playerAt(player);
        Stint present = one.registration;
        if (present == null || present.kind != YOUTH) {
            throw new UnsupportedOperationException();
        }
        one.endStint(day);
        return day - present.from;
    }

    public long sign(int player, int club, int years, int wage) throws IndexOutOfBoundsException, IllegalArgumentException, UnsupportedOperationException, IllegalStateException {
        Player one = playerAt(player);
        Club employer = clubAt(club);
        requireWithin(years, 1, 5);
        requireWithin(wage, 0, LARGEST_WAGE);
        if (!maySign(one, employer)) {
            throw new UnsupportedOperationException();
        }
        long money = trainingDue(one, employer);
        if (hasOverdueDebt(employer) || employer.cash < money) {
            throw new IllegalStateException();
        }
        payTraining(one, employer);
        one.beginContract(new Contract(employer, day, years, wage, 0, 0, null), day);
        return money;
    }

    public int setRelease(int player, int sum) throws IndexOutOfBoundsException, IllegalArgumentException, UnsupportedOperationException {
        Player one = playerAt(player);
        requireWithin(sum, NONE, 99999999);
        if (one.bond == null) {
            throw new UnsupportedOperationException();
        }
        int before = one.bond.release;
        one.bond.release = sum;
        return before;
    }

    public int clubOf(int player) throws IndexOutOfBoundsException, NoSuchElementException {
        Player one = playerAt(player);
        if (one.registration == null) {
            throw new NoSuchElementException();
        }
        return one.registration.club.number;
    }

    public int boundTo(int player) throws IndexOutOfBoundsException, NoSuchElementException {
        Player one = playerAt(player);
        if (one.bond == null) {
            throw new NoSuchElementException();
        }
        return one.bond.club.number;
    }

    public int contract(int player, char what) throws IndexOutOfBoundsException, IllegalArgumentException, NoSuchElementException {
        Player one = playerAt(player);
        if (what != 'u' && what != 'w' && what != 'r' && what != 'f' && what != 's') {
            throw new IllegalArgumentException();
        }
        if (one.bond == null) {
            throw new NoSuchElementException();
        }
        if (what == 'u') {
            return one.bond.until;
        }
        if (what == 'w') {
            return one.bond.wage;
        }
        if (what == 'r') {
            return one.bond.release;
        }
        return what == 'f' ? one.bond.fee : one.bond.share;
    }

    public int age(int player) throws IndexOutOfBoundsException {
        return playerAt(player).yearsOn(day);
    }

    public int stints(int player) throws IndexOutOfBoundsException {
        return playerAt(player).stints.size();
    }

    public int stint(int player, int index, char what) throws IndexOutOfBoundsException, IllegalArgumentException, NoSuchElementException {
        Player one = playerAt(player);
        if (what != 'c' && what != 'f' && what != 't' && what != 'k') {
            throw new IllegalArgumentException();
        }
        if (index < 0 || index >= one.stints.size()) {
            throw new NoSuchElementException();
        }
        Stint found = one.stints.get(index);
        if (what == 'c') {
            return found.club.number;
        }
        if (what == 'k') {
            return found.kind;
        }
        return what == 'f' ? found.from : found.endBy(day);
    }

    public int grown(int player, int club) throws IndexOutOfBoundsException {
        Player one = playerAt(player);
        Club school = clubAt(club);
        return one.daysAt(school, one.dayOfAge(15), one.dayOfAge(21), day);
    }

    // ---- offers

    public int offer(int buyer, int player, int fee, int parts, int years, int wage, int share) throws IndexOutOfBoundsException, IllegalArgumentException, UnsupportedOperationException, IllegalStateException {
        Club bidder = clubAt(buyer);
        Player wanted = playerAt(player);
        requireWithin(fee, 0, LARGEST_SUM);
        requireWithin(parts, 1, 4);
        requireWithin(years, 1, 5);
        requireWithin(wage, 0, LARGEST_WAGE);
        requireWithin(share, 0, 50);
        if (wanted.bond == null || wanted.bond.club == bidder) {
            throw new UnsupportedOperationException();
        }
        int number = offers.size();
        if (number >= MOST_OFFERS) {
            throw new IllegalStateException();
        }
        Offer one = new Offer(number, bidder, wanted, fee, wanted.bond);
        one.parts = parts;
        one.years = years;
        one.wage = wage;
        one.share = share;
        offers.add(one);
        return number;
    }

    public char answer(int offer, boolean isYes) throws IndexOutOfBoundsException, UnsupportedOperationException, IllegalStateException {
        Offer one = offerAt(offer);
        if (one.letter != 'o') {
            throw new UnsupportedOperationException();
        }
        if (!isYes && one.old.release != NONE && one.fee >= one.old.release) {
            throw new IllegalStateException();
        }
        one.letter = isYes ? 'a' : 'n';
        return one.letter;
    }

    public char file(int offer) throws IndexOutOfBoundsException, UnsupportedOperationException, IllegalStateException {
        Offer one = offerAt(offer);
        if (one.letter != 'a') {
            throw new UnsupportedOperationException();
        }
        if (!one.buyer.land.isOpenOn(day) || hasOverdueDebt(one.buyer)) {
            throw new IllegalStateException();
        }
        one.letter = one.buyer.land == one.old.club.land ? 'r' : 'w';
        one.filedOn = day;
        return one.letter;
    }

    public char certify(int offer, boolean isGiven) throws IndexOutOfBoundsException, UnsupportedOperationException {
        Offer one = offerAt(offer);
        if (one.letter != 'w') {
            throw new UnsupportedOperationException();
        }
        one.letter = isGiven ? 'r' : 'x';
        return one.letter;
    }

    public char state(int offer) throws IndexOutOfBoundsException {
        return offerAt(offer).letter;
    }

    public long complete(int offer) throws IndexOutOfBoundsException, UnsupportedOperationException, IllegalStateException {
        Offer one = offerAt(offer);
        if (!mayComplete(one)) {
            throw new UnsupportedOperationException();
        }
        if (one.buyer.cash < one.firstPart()) {
            throw new IllegalStateException();
        }
        fulfil(one);
        return one.firstPart();
    }

    public int link(int offer) throws IndexOutOfBoundsException, UnsupportedOperationException, IllegalStateException {
        Offer one = offerAt(offer);
        if (one.letter != 'r' || isLinked(one.mover)) {
            throw new UnsupportedOperationException();
        }
        if (chain.size() >= MOST_LINKED) {
            throw new IllegalStateException();
        }
        int place = 0;
        while (place < chain.size() && chain.get(place).number < one.number) {
            place++;
        }
        chain.add(place, one);
        return chain.size();
    }

    public int cut() {
        int count = chain.size();
        chain.clear();
        return count;
    }

    public int run() throws UnsupportedOperationException, IllegalStateException {
        int count = chain.size();
        if (count == 0 || !isChainAllowed()) {
            throw new UnsupportedOperationException();
        }
        findGains();
        if (!findEndings() || !findOrder()) {
            throw new IllegalStateException();
        }
        for (int i = 0; i < count && i < order.length; i++) {
            int next = order[i];
            if (next >= 0 && next < chain.size()) {
                fulfil(chain.get(next));
            }
        }
        int first = order[0] >= 0 && order[0] < count ? chain.get(order[0]).number : NONE;
        chain.clear();
        return first;
    }

    public boolean canRun() {
        if (!isChainAllowed()) {
            return false;
        }
        findGains();
        return findBeginnings();
    }

    public boolean rule(int offer) throws IndexOutOfBoundsException, UnsupportedOperationException {
        Offer one = offerAt(offer);
        if (!mayBeRuled(one)) {
            throw new UnsupportedOperationException();
        }
        int before = lostMatches();
        undoMove(one);
        payBack(one);
        dropDebts(one);
        one.letter = 'v';
        return lostMatches() > before;
    }

    // ---- loans

    public int lend(int player, int club, int days, int matches, int price) throws IndexOutOfBoundsException, IllegalArgumentException, UnsupportedOperationException, IllegalStateException {
        Player one = playerAt(player);
        Club borrower = clubAt(club);
        requireWithin(days, 1, 360);
        requireWithin(matches, 0, 40);
        requireWithin(price, 0, LARGEST_SUM);
        Contract bond = one.bond;
        if (bond == null || !mayLend(one, bond, borrower, day + days)) {
            throw new UnsupportedOperationException();
        }
        if (hasOverdueDebt(borrower) || isLoanLimitReached(bond.club, borrower)) {
            throw new IllegalStateException();
        }
        bond.wasLent = true;
        one.loan = new Loan(borrower, day, day + days, matches, price);
        one.endStint(day);
        one.beginStint(borrower, ON_LOAN, day);
        return day + days;
    }

    public int recall(int player) throws IndexOutOfBoundsException, UnsupportedOperationException, IllegalStateException {
        Player one = playerAt(player);
        Loan loan = one.loan;
        Contract bond = one.bond;
        if (loan == null || bond == null) {
            throw new UnsupportedOperationException();
        }
        if (!bond.club.land.isOpenOn(day)) {
            throw new IllegalStateException();
        }
        int count = matchesOn(one, loan);
        returnFromLoan(one, bond);
        return count;
    }

    public int loans(int club, boolean isLent) throws IndexOutOfBoundsException {
        Club one = clubAt(club);
        return isLent ? countLent(one) : countBorrowed(one);
    }

    // ---- money

    public long cash(int club) throws IndexOutOfBoundsException {
        return clubAt(club).cash;
    }

    public long federation(int land) throws IllegalArgumentException {
        return landAt(land).federation;
    }

    public long owes(int club) throws IndexOutOfBoundsException {
        Club one = clubAt(club);
        long sum = 0;
        for (int i = 0; i < debts.size(); i++) {
            Debt debt = debts.get(i);
            if (!debt.isSettled && debt.offer.buyer == one) {
                sum += debt.amount;
            }
        }
        return sum;
    }

    public boolean isBanned(int club) throws IndexOutOfBoundsException {
        return hasOverdueDebt(clubAt(club));
    }

    public long trained(int player, int part, int club) throws IndexOutOfBoundsException, IllegalArgumentException {
        Player one = playerAt(player);
        Club trainer = clubAt(club);
        requireWithin(part, 1, LARGEST_SUM);
        long sum = 0;
        for (int year = 12; year <= 23; year++) {
            sum += yearShareOf(one, year, trainer, part);
        }
        return sum;
    }

    public long training(int player, int club) throws IndexOutOfBoundsException {
        Player one = playerAt(player);
        return trainingDue(one, clubAt(club));
    }

    public long result(int club, int year) throws IndexOutOfBoundsException, NoSuchElementException {
        Club one = clubAt(club);
        if (year < one.firstYear) {
            throw new NoSuchElementException();
        }
        int index = year - one.firstYear;
        if (index >= one.endedYears || index >= one.results.length) {
            throw new NoSuchElementException();
        }
        return one.results[index];
    }

    public int points(int club) throws IndexOutOfBoundsException {
        Club one = clubAt(club);
        int sum = -one.lostPoints;
        for (int i = 0; i < matches.size(); i++) {
            Match match = matches.get(i);
            if (match.isOf(one) && match.isLostBy(match.against(one))) {
                sum += 3;
            }
        }
        return sum;
    }

    // ---- squads and matches

    public int squad(int club) throws IndexOutOfBoundsException {
        return countRegistered(clubAt(club));
    }

    public int homegrown(int club) throws IndexOutOfBoundsException {
        Club one = clubAt(club);
        int count = 0;
        for (int i = 0; i < players.size(); i++) {
            Player player = players.get(i);
            if (player.isAt(one) && isHomegrown(player, one.land)) {
                count++;
            }
        }
        return count;
    }

    public int match(int club, int other) throws IndexOutOfBoundsException, IllegalArgumentException, IllegalStateException {
        Club home = clubAt(club);
        Club guest = clubAt(other);
        if (home == guest) {
            throw new IllegalArgumentException();
        }
        int number = matches.size();
        if (number >= MOST_MATCHES) {
            throw new IllegalStateException();
        }
        matches.add(new Match(home, guest, day));
        return number;
    }

    public boolean appear(int match, int club, int player) throws IndexOutOfBoundsException, IllegalArgumentException, UnsupportedOperationException {
        Match one = matchAt(match);
        Club side = clubAt(club);
        Player who = playerAt(player);
        if (!one.isOf(side)) {
            throw new IllegalArgumentException();
        }
        if (one.day != day || one.wasTold(who)) {
            throw new UnsupportedOperationException();
        }
        one.appearances.add(new Appearance(who, side));
        return who.wasAt(side, day);
    }

    public boolean protest(int match, int club) throws IndexOutOfBoundsException, IllegalArgumentException, UnsupportedOperationException {
        Match one = matchAt(match);
        Club side = clubAt(club);
        if (!one.isOf(side)) {
            throw new IllegalArgumentException();
        }
        if (day - one.day > DAYS_TO_PROTEST || one.hasProtested(side)) {
            throw new UnsupportedOperationException();
        }
        one.noteProtest(side);
        return one.isLostBy(one.against(side));
    }

    public int loser(int match) throws IndexOutOfBoundsException, NoSuchElementException {
        Match one = matchAt(match);
        boolean isHomeLoser = one.isLostBy(one.home);
        if (isHomeLoser == one.isLostBy(one.guest)) {
            throw new NoSuchElementException();
        }
        return isHomeLoser ? one.home.number : one.guest.number;
    }

    // ---- figures

    public long print() {
        long sum = 7;
        for (int i = 0; i < clubs.size(); i++) {
            sum = 31 * sum + clubs.get(i).cash;
        }
        for (int i = 0; i < players.size(); i++) {
            Stint present = players.get(i).registration;
            sum = 31 * sum + (present == null ? 0 : present.club.number + 1);
        }
        for (int i = 0; i < lands.length; i++) {
            sum = 31 * sum + lands[i].federation;
        }
        return sum;
    }

    public float wageShare(int club) throws IndexOutOfBoundsException, ArithmeticException {
        Club one = clubAt(club);
        if (one.yearIncome == 0) {
            throw new ArithmeticException();
        }
        return (float) one.yearWages / (float) one.yearIncome;
    }

    public double meanAge(int club) throws IndexOutOfBoundsException, ArithmeticException {
        Club one = clubAt(club);
        int count = countRegistered(one);
        if (count == 0) {
            throw new ArithmeticException();
        }
        int sum = 0;
        for (int i = 0; i < players.size(); i++) {
            if (players.get(i).isAt(one)) {
                sum += players.get(i).yearsOn(day);
            }
        }
        return (double) sum / (double) count;
    }

    public boolean isSound() {
        return isMoneySound() && areStintsSound() && areOffersSound() && isChainSound();
    }

    // ---- what is asked for by number

    private Land landAt(int land) {
        if (land < 0 || land >= lands.length) {
            throw new IllegalArgumentException();
        }
        return lands[land];
    }

    private Club clubAt(int club) {
        if (club < 0 || club >= clubs.size()) {
            throw new IndexOutOfBoundsException();
        }
        return clubs.get(club);
    }

    private Player playerAt(int player) {
        if (player < 0 || player >= players.size()) {
            throw new IndexOutOfBoundsException();
        }
        return players.get(player);
    }

    private Offer offerAt(int offer) {
        if (offer < 0 || offer >= offers.size()) {
            throw new IndexOutOfBoundsException();
        }
        return offers.get(offer);
    }

    private Match matchAt(int match) {
        if (match < 0 || match >= matches.size()) {
            throw new IndexOutOfBoundsException();
        }
        return matches.get(match);
    }

    private static void requireWithin(int number, int least, int most) {
        if (number < least || number > most) {
            throw new IllegalArgumentException();
        }
    }

    // ---- days

    private void payWages() {
        for (int i = 0; i < players.size(); i++) {
            Contract bond = players.get(i).bond;
            if (bond != null) {
                bond.club.cash -= bond.wage;
                bond.club.yearWages += bond.wage;
                allWages += bond.wage;
            }
        }
    }

    private void endLoansAndContracts() {
        for (int i = 0; i < players.size(); i++) {
            Player one = players.get(i);
            if (one.loan != null && one.bond != null && one.loan.end <= day) {
                endLoan(one, one.loan, one.bond);
            }
            if (one.bond != null && one.bond.until <= day) {
                one.endContract(day);
            }
        }
    }

    private void endWaiting() {
        for (int i = 0; i < offers.size(); i++) {
            Offer one = offers.get(i);
            if (one.letter == 'w' && day - one.filedOn >= DAYS_TO_CERTIFY) {
                one.letter = 'r';
            }
        }
    }

    private void payDebts() {
        for (int i = 0; i < debts.size(); i++) {
            Debt debt = debts.get(i);
            if (debt.isOverdue(day) && debt.offer.buyer.cash >= debt.amount) {
                debt.isSettled = true;
                payPart(debt.offer, debt.amount);
            }
        }
    }

    private void endYear() {
        for (int i = 0; i < clubs.size(); i++) {
            Club one = clubs.get(i);
            one.endYear(one.yearIncome - one.yearWages - feesOfYear(one));
            if (one.lastThreeResults() < -3000) {
                one.lostPoints += 6;
            }
        }
    }

    private long feesOfYear(Club club) {
        long sum = 0;
        for (int i = 0; i < players.size(); i++) {
            Contract bond = players.get(i).bond;
            if (bond != null && bond.club == club) {
                sum += bond.feeOfYear();
            }
        }
        return sum;
    }

    // ---- rules of registrations and contracts

    // The present registration counts even if it began today: it is a stint as long as it has not ended.
    private boolean mayRegister(Player one, Club club) {
        if (one.yearsOn(day) < 18 && one.land != club.land) {
            return false;
        }
        int firstDay = day - day % YEAR;
        int others = 0;
        for (int i = 0; i < clubs.size(); i++) {
            Club other = clubs.get(i);
            if (other != club && (one.isAt(other) || one.daysAt(other, firstDay, day, day) > 0)) {
                others++;
            }
        }
        return others < MOST_CLUBS_A_YEAR;
    }

    private boolean maySign(Player one, Club club) {
        if (one.yearsOn(day) < 16 || one.bond != null || one.loan != null) {
            return false;
        }
        boolean isInTime = club.land.isOpenOn(day) || wasFreeInLastWindow(one, club.land);
        return isInTime && mayRegister(one, club);
    }

    private boolean wasFreeInLastWindow(Player one, Land land) {
        int earliest = Math.max(0, day - YEAR);
        for (int past = day - 1; past >= earliest; past--) {
            if (land.isOpenOn(past)) {
                return !one.hadContractOn(past);
            }
        }
        return false;
    }

    private long trainingDue(Player one, Club club) {
        long sum = 0;
        for (int i = 0; i < clubs.size(); i++) {
            sum += trainingFor(one, club, clubs.get(i));
        }
        return sum;
    }

    private long trainingFor(Player one, Club club, Club school) {
        if (school == club || !one.contracts.isEmpty()) {
            return 0;
        }
        return (long) club.trainingRate() * one.daysAt(school, one.dayOfAge(12), one.dayOfAge(21), day);
    }

    private void payTraining(Player one, Club club) {
        for (int i = 0; i < clubs.size(); i++) {
            Club school = clubs.get(i);
            long money = trainingFor(one, club, school);
            club.cash -= money;
            school.cash += money;
        }
    }

    // ---- sales and their parts

    private boolean mayComplete(Offer one) {
        Player mover = one.mover;
        boolean isThere = mover.bond == one.old && mover.loan == null;
        return one.letter == 'r' && isThere && mover.yearsOn(day) >= 16 && mayRegister(mover, one.buyer);
    }

    private void fulfil(Offer one) {
        payPart(one, one.firstPart());
        for (int part = 1; part < one.parts; part++) {
            debts.add(new Debt(one, one.laterPart(), day + part * DAYS_BETWEEN_PARTS));
        }
        one.made = new Contract(one.buyer, day, one.years, one.wage, one.fee, one.share, one.old.club);
        one.mover.beginContract(one.made, day);
        one.stint = one.mover.registration;
        for (int i = 0; i < offers.size(); i++) {
            Offer other = offers.get(i);
            if (other != one && other.mover == one.mover && other.isUndecided()) {
                other.letter = 'x';
            }
        }
        one.letter = 'c';
        one.completedOn = day;
    }

    private void payPart(Offer one, int part) {
        splitPart(one.mover, one.old, part, split);
        one.buyer.cash -= part;
        one.paid += part;
        for (int i = 0; i < split.length && i < one.got.length; i++) {
            one.got[i] += split[i];
        }
        handOut(split, one.mover.land);
    }

    private void handOut(long[] row, Land land) {
        for (int i = 0; i < clubs.size() && i < row.length; i++) {
            clubs.get(i).cash += row[i];
        }
        if (MOST_CLUBS < row.length) {
            land.federation += row[MOST_CLUBS];
        }
    }

    private void splitPart(Player mover, Contract sold, int part, long[] row) {
        Arrays.fill(row, 0);
        long rest = part;
        for (int year = 12; year <= 23; year++) {
            long left = yearShare(year, part);
            rest -= left;
            for (int i = 0; i < clubs.size(); i++) {
                long money = yearShareOf(mover, year, clubs.get(i), part);
                addTo(row, i, money);
                left -= money;
            }
            addTo(row, MOST_CLUBS, left);
        }
        if (sold.keeper != null) {
            long kept = rest * sold.share / 100;
            addTo(row, sold.keeper.number, kept);
            rest -= kept;
        }
        addTo(row, sold.club.number, rest);
    }

    private static void addTo(long[] row, int index, long money) {
        if (index >= 0 && index < row.length) {
            row[index] += money;
        }
    }

    private static long yearShare(int year, int part) {
        return year <= 15 ? part / 400 : part / 200;
    }

    private long yearShareOf(Player mover, int year, Club club, int part) {
        int spent = mover.daysAt(club, mover.dayOfAge(year), mover.dayOfAge(year + 1), day);
        return yearShare(year, part) * spent / YEAR;
    }

    private boolean hasOverdueDebt(Club club) {
        for (int i = 0; i < debts.size(); i++) {
            Debt debt = debts.get(i);
            if (debt.offer.buyer == club && debt.isOverdue(day)) {
                return true;
            }
        }
        return false;
    }

    // ---- chains

    private boolean isLinked(Player mover) {
        for (int i = 0; i < chain.size(); i++) {
            if (chain.get(i).mover == mover) {
                return true;
            }
        }
        return false;
    }

    private boolean isChainAllowed() {
        for (int i = 0; i < chain.size(); i++) {
            if (!mayComplete(chain.get(i))) {
                return false;
            }
        }
        return true;
    }

    // What an offer brings to each club is the same in every order: shares look at days ahead of today alone.
    private void findGains() {
        for (int i = 0; i < chain.size() && i < gains.length; i++) {
            Offer one = chain.get(i);
            splitPart(one.mover, one.old, one.firstPart(), gains[i]);
            addTo(gains[i], one.buyer.number, -one.firstPart());
        }
    }

    private boolean canFollow(int done, int next) {
        if (next < 0 || next >= chain.size()) {
            return false;
        }
        Offer one = chain.get(next);
        int payer = one.buyer.number;
        long cash = one.buyer.cash;
        for (int i = 0; i < gains.length; i++) {
            if ((done >> i & 1) != 0 && payer >= 0 && payer < gains[i].length) {
                cash += gains[i][payer];
            }
        }
        return (done >> next & 1) == 0 && cash >= one.firstPart();
    }

    // Forwards: which sets of offers can be done at all.
    private boolean findBeginnings() {
        int count = Math.min(chain.size(), MOST_LINKED);
        int all = (1 << count) - 1;
        for (int done = 0; done <= all && done < canBeDone.length; done++) {
            canBeDone[done] = done == 0;
            for (int i = 0; i < count && !canBeDone[done]; i++) {
                int before = done & ~(1 << i);
                canBeDone[done] = before != done && canBeDone[before] && canFollow(before, i);
            }
        }
        return all < canBeDone.length && canBeDone[all];
    }

    // Backwards: behind which sets of offers all others can be done.
    private boolean findEndings() {
        int count = Math.min(chain.size(), MOST_LINKED);
        int all = Math.min((1 << count) - 1, canBeEnded.length - 1);
        for (int done = all; done >= 0; done--) {
            canBeEnded[done] = done == all;
            for (int i = 0; i < count && !canBeEnded[done]; i++) {
                canBeEnded[done] = canBeFirstOfRest(done, i);
            }
        }
        return canBeEnded[0];
    }

    private boolean canBeFirstOfRest(int done, int next) {
        int after = done | 1 << next;
        return canFollow(done, next) && after < canBeEnded.length && canBeEnded[after];
    }

    private boolean findOrder() {
        int count = Math.min(chain.size(), order.length);
        int done = 0;
        for (int place = 0; place < count; place++) {
            int next = 0;
            while (next < count && !canBeFirstOfRest(done, next)) {
                next++;
            }
            if (next == count) {
                return false;
            }
            order[place] = next;
            done |= 1 << next;
        }
        return true;
    }

    // ---- rulings

    private boolean mayBeRuled(Offer one) {
        if (one.letter != 'c' || one.made == null || day - one.completedOn > DAYS_TO_RULE) {
            return false;
        }
        return one.mover.lastContract() == one.made && !one.made.wasLent;
    }

    private void undoMove(Offer one) {
        Player mover = one.mover;
        int last = mover.contracts.size() - 1;
        if (last >= 0) {
            mover.contracts.remove(last);
        }
        mover.dropStint(one.stint);
        if (mover.bond == one.made) {
            mover.bond = null;
        }
        if (mover.registration == one.stint) {
            mover.registration = null;
        }
    }

    private void payBack(Offer one) {
        for (int i = 0; i < one.got.length; i++) {
            one.got[i] = -one.got[i];
        }
        handOut(one.got, one.mover.land);
        one.buyer.cash += one.paid;
        one.paid = 0;
        Arrays.fill(one.got, 0);
    }

    private void dropDebts(Offer one) {
        for (int i = 0; i < debts.size(); i++) {
            if (debts.get(i).offer == one) {
                debts.get(i).isSettled = true;
            }
        }
    }

    private int lostMatches() {
        int count = 0;
        for (int i = 0; i < matches.size(); i++) {
            Match one = matches.get(i);
            count += (one.isLostBy(one.home) ? 1 : 0) + (one.isLostBy(one.guest) ? 1 : 0);
        }
        return count;
    }

    // ---- loans

    private boolean mayLend(Player one, Contract bond, Club borrower, int end) {
        if (one.loan != null || bond.club == borrower || end > bond.until) {
            return false;
        }
        return borrower.land.isOpenOn(day) && mayRegister(one, borrower);
    }

    private boolean isLoanLimitReached(Club lender, Club borrower) {
        int between = countBetween(lender, borrower) + countBetween(borrower, lender);
        return countLent(lender) >= MOST_LENT || countBorrowed(borrower) >= MOST_LENT || between >= MOST_BETWEEN_TWO;
    }

    private int countLent(Club lender) {
        int count = 0;
        for (int i = 0; i < clubs.size(); i++) {
            count += countBetween(lender, clubs.get(i));
        }
        return count;
    }

    private int countBorrowed(Club borrower) {
        int count = 0;
        for (int i = 0; i < clubs.size(); i++) {
            count += countBetween(clubs.get(i), borrower);
        }
        return count;
    }

    private int countBetween(Club lender, Club borrower) {
        int count = 0;
        for (int i = 0; i < players.size(); i++) {
            Player one = players.get(i);
            if (one.loan != null && one.bond != null && one.bond.club == lender && one.loan.club == borrower) {
                count++;
            }
        }
        return count;
    }

    // Who is in a match for the loan's club on a day of the loan is entitled by it, also if told ahead of it that day.
    private int matchesOn(Player one, Loan loan) {
        int count = 0;
        for (int i = 0; i < matches.size(); i++) {
            Match match = matches.get(i);
            if (match.day >= loan.from && match.wasFor(loan.club, one)) {
                count++;
            }
        }
        return count;
    }

    private void endLoan(Player one, Loan loan, Contract bond) {
        boolean isPlayed = loan.matchesToBuy > 0 && matchesOn(one, loan) >= loan.matchesToBuy;
        if (!isPlayed || bond.until <= day || loan.club.cash < loan.price) {
            returnFromLoan(one, bond);
            return;
        }
        splitPart(one, bond, loan.price, split);
        loan.club.cash -= loan.price;
        handOut(split, one.land);
        one.loan = null;
        one.beginContract(new Contract(loan.club, day, 1, bond.wage, loan.price, 0, bond.club), day);
    }

    private void returnFromLoan(Player one, Contract bond) {
        one.loan = null;
        one.endStint(day);
        one.beginStint(bond.club, BY_CONTRACT, day);
    }

    // ---- squads

    private int countRegistered(Club club) {
        int count = 0;
        for (int i = 0; i < players.size(); i++) {
            if (players.get(i).isAt(club)) {
                count++;
            }
        }
        return count;
    }

    private boolean isHomegrown(Player one, Land land) {
        int sum = 0;
        for (int i = 0; i < clubs.size(); i++) {
            Club school = clubs.get(i);
            if (school.land == land) {
                sum += one.daysAt(school, one.dayOfAge(15), one.dayOfAge(21), day);
            }
        }
        return one.yearsOn(day) < 21 || sum >= 1080;
    }

    // ---- soundness

    private boolean isMoneySound() {
        long sum = 0;
        for (int i = 0; i < clubs.size(); i++) {
            sum += clubs.get(i).cash;
        }
        for (int i = 0; i < lands.length; i++) {
            sum += lands[i].federation;
        }
        return sum == startCash + allIncome - allWages;
    }

    private boolean areStintsSound() {
        for (int i = 0; i < players.size(); i++) {
            ArrayList<Stint> row = players.get(i).stints;
            for (int k = 1; k < row.size(); k++) {
                if (row.get(k - 1).endBy(day) > row.get(k).from) {
                    return false;
                }
            }
        }
        return true;
    }

    private boolean areOffersSound() {
        for (int i = 0; i < offers.size(); i++) {
            Offer one = offers.get(i);
            long sum = 0;
            for (int k = 0; k < one.got.length; k++) {
                sum += one.got[k];
            }
            if (sum != one.paid) {
                return false;
            }
        }
        return true;
    }

    private boolean isChainSound() {
        if (!isChainAllowed()) {
            return true;
        }
        findGains();
        return findBeginnings() == findEndings();
    }
}
