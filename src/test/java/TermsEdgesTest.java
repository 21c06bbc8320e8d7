/** The sentences of the document's terms that name a boundary, each with a test of its own, in the document's order. */
public final class TermsEdgesTest {
    private static final Class<IllegalStateException> STATE = IllegalStateException.class;
    private static final Class<UnsupportedOperationException> CANNOT = UnsupportedOperationException.class;
    private static final Class<java.util.NoSuchElementException> NONE = java.util.NoSuchElementException.class;
    private static final String NOTHING = "throws NoSuchElementException";
    private static final int AGE_16 = 16 * 360;
    private static final int AGE_18 = 18 * 360;
    private static final int AGE_21 = 21 * 360;

    public static void main(String[] args) {
        windowsAtFirst();
        windowsThatMeet();
        agesAreCut();
        stintsOfOneDay();
        daysOfRegistrations();
        youths();
        foreignMinors();
        whoCanSign();
        lastOpenDay();
        clubsOfAYear();
        clubsOverTheEndOfAYear();
        trainingMoneyIsThere();
        trainingMoneyReachesAll();
        endOfContract();
        certificates();
        completion();
        partsOfAFee();
        smallParts();
        yearsOfLife();
        keptHundredths();
        debtsByTheirOrder();
        debtsAndTheDay();
        loanLimits();
        endOfLoan();
        obligationAndCash();
        obligationAndBan();
        matchesOnLoan();
        entitled();
        protests();
        rulings();
        rulingsAndMatches();
        accounts();
        Check.end("TermsEdgesTest");
    }

    /** Clubs 0 to 3 of the land 0 and 4 of the land 1, of the category 4, without players. */
    private static TransferHall clubs(int cash) {
        TransferHall x = new TransferHall();
        for (int i = 0; i < 5; i++) {
            x.club(i / 4, 4, cash);
        }
        return x;
    }

    /** And the players 0 to 3, of 21 years, under contract for two years at the club of the same number. */
    private static TransferHall hall(int cash) {
        TransferHall x = clubs(cash);
        for (int i = 0; i < 4; i++) {
            x.player(AGE_21, 0);
            x.sign(i, i, 2, 0);
        }
        return x;
    }

    private static int filed(TransferHall x, int buyer, int player, int fee, int parts, int share) {
        int number = x.offer(buyer, player, fee, parts, 1, 0, share);
        x.answer(number, true);
        x.file(number);
        return number;
    }

    private static void alwaysOpen(TransferHall x) {
        for (int land = 0; land < 4; land++) {
            x.setWindow(land, true, 0, 359);
        }
    }

    // ---- days

    private static void windowsAtFirst() {
        for (int i = 1; i <= 400; i++) {
            int ofYear = i % 360;
            boolean isOpen = ofYear <= 29 || 180 <= ofYear && ofYear <= 239;
            int wait = isOpen ? 0 : ofYear < 180 ? 180 - ofYear : 360 - ofYear;
            TransferHall x = new TransferHall();
            x.days(i);
            for (int k = 0; k < 4; k++) {
                int land = k;
                Check.due("days: 180 to 239 and 0 to 29 at first, both included, day " + i, isOpen, () -> x.isOpen(land));
                Check.due("days: open next, day " + i, wait, () -> x.opensIn(land));
            }
        }
    }

    private static void windowsThatMeet() {
        TransferHall x = new TransferHall();
        x.setWindow(0, false, 0, 0);
        x.setWindow(0, true, 0, 0);
        x.setWindow(3, false, 0, 359);
        x.setWindow(3, true, 0, 0);
        x.setWindow(1, false, 1, 2);
        x.setWindow(1, true, 2, 3);
        x.setWindow(2, false, 359, 359);
        x.setWindow(2, true, 0, 0);
        Check.due("days: a window of one day, on it", 0, () -> x.opensIn(0));
        Check.due("days: not yet", 1, () -> x.opensIn(1));
        x.days(1);
        Check.due("days: the longest time, 359 days", 359, () -> x.opensIn(0));
        Check.due("days: the first day of the first one", true, () -> x.isOpen(1));
        Check.due("days: up to the last day of the year", 358, () -> x.opensIn(2));
        x.days(1);
        Check.due("days: a day in both", true, () -> x.isOpen(1));
        x.days(1);
        Check.due("days: the last day of the second one", true, () -> x.isOpen(1));
        x.days(1);
        Check.due("days: behind both", false, () -> x.isOpen(1));
        Check.due("days: over the end of the year", 357, () -> x.opensIn(1));
        x.days(355);
        Check.due("days: day 359", true, () -> x.isOpen(2));
        Check.due("days: a window of the whole year, its last day", true, () -> x.isOpen(3));
        x.days(1);
        Check.due("days: day 360 is the day 0 of the year", true, () -> x.isOpen(2));
        Check.due("days: and that of the land 0", true, () -> x.isOpen(0));
        Check.due("days: the whole year, its first day", true, () -> x.isOpen(3));
    }

    // ---- clubs and players

    private static void agesAreCut() {
        TransferHall x = new TransferHall();
        x.player(0, 0);
        x.player(359, 0);
        x.player(360, 0);
        x.player(14399, 0);
        Check.due("players: born on the day 0", 0, () -> x.age(0));
        Check.due("players: a day short of a year", 0, () -> x.age(1));
        Check.due("players: just a year", 1, () -> x.age(2));
        Check.due("players: born below 0", 39, () -> x.age(3));
        x.days(1);
        Check.due("players: a year by now", 1, () -> x.age(1));
        Check.due("players: not yet two", 1, () -> x.age(2));
        Check.due("players: 40", 40, () -> x.age(3));
        x.days(359);
        Check.due("players: the first birthday", 1, () -> x.age(0));
    }

    private static void stintsOfOneDay() {
        TransferHall x = clubs(0);
        x.player(AGE_21 - 1, 0);
        x.enrol(0, 0);
        x.sign(0, 1, 2, 0);
        Check.due("players: a youth of today who signs, one registration at a time", 1, () -> x.stints(0));
        Check.due("players: not at the school any more", 0, () -> x.squad(0));
        Check.due("players: at the club", 1, () -> x.squad(1));
        x.lend(0, 2, 5, 0, 0);
        Check.due("players: lent on the day of the contract", 1, () -> x.stints(0));
        Check.due("players: not at the club any more", 0, () -> x.squad(1));
        Check.due("players: the loan", 2, () -> x.stint(0, 0, 'k'));
        x.recall(0);
        Check.due("players: recalled on the day of the loan", 1, () -> x.stints(0));
        Check.due("players: by the contract", 1, () -> x.stint(0, 0, 'k'));
        x.complete(filed(x, 3, 0, 0, 1, 0));
        Check.due("players: sold on that day too", 1, () -> x.stints(0));
        Check.due("players: to that club", 3, () -> x.stint(0, 0, 'c'));
        x.days(1);
        x.lend(0, 2, 1, 0, 0);
        Check.due("players: a stint of one day", 2, () -> x.stints(0));
        x.days(1);
        Check.due("players: and another one", 3, () -> x.stints(0));
    }

    private static void daysOfRegistrations() {
        TransferHall x = clubs(0);
        x.player(15 * 360, 0);
        x.enrol(0, 0);
        Check.due("players: of a present one no day on the first day", 0, () -> x.grown(0, 0));
        Check.due("players: to today", 0, () -> x.stint(0, 0, 't'));
        x.days(1);
        Check.due("players: counted up to yesterday", 1, () -> x.grown(0, 0));
        Check.due("players: to today again", 1, () -> x.stint(0, 0, 't'));
        x.leave(0);
        x.enrol(0, 1);
        Check.due("players: the day on which it ends is left out", 1, () -> x.grown(0, 0));
        x.days(1);
        Check.due("players: it is of the next one", 1, () -> x.grown(0, 1));
        Check.due("players: nothing is added", 1, () -> x.grown(0, 0));
        Check.due("players: nor to the stint", 1, () -> x.stint(0, 0, 't'));
    }

    // ---- youths

    private static void youths() {
        TransferHall x = clubs(0);
        x.player(12 * 360 - 1, 0);
        x.player(AGE_21 - 1, 0);
        x.player(AGE_18, 0);
        Check.refused("youths: a day short of 12", x, CANNOT, () -> x.enrol(0, 0));
        x.sign(2, 0, 1, 0);
        Check.refused("youths: has a registration by a contract", x, CANNOT, () -> x.enrol(2, 1));
        x.lend(2, 1, 1, 0, 0);
        Check.refused("youths: has one on loan", x, CANNOT, () -> x.enrol(2, 0));
        Check.due("youths: the last day of 20", 20, () -> x.enrol(1, 0));
        Check.refused("youths: has one as a youth", x, CANNOT, () -> x.enrol(1, 1));
        x.leave(1);
        x.days(1);
        Check.due("youths: the day of 12", 12, () -> x.enrol(0, 0));
        Check.refused("youths: the day of 21", x, CANNOT, () -> x.enrol(1, 0));
    }

    private static void foreignMinors() {
        TransferHall x = clubs(1000);
        x.player(AGE_18 - 1, 0);
        x.player(AGE_18 - 1, 1);
        x.player(AGE_18 - 1, 0);
        x.player(AGE_18 - 1, 0);
        Check.refused("youths: 17 in another land, as a youth", x, CANNOT, () -> x.enrol(0, 4));
        Check.refused("youths: the land of the player is meant", x, CANNOT, () -> x.enrol(1, 0));
        Check.refused("youths: 17 in another land, by a contract", x, CANNOT, () -> x.sign(0, 4, 1, 0));
        x.sign(2, 0, 1, 0);
        Check.refused("youths: 17 in another land, on loan", x, CANNOT, () -> x.lend(2, 4, 1, 0, 0));
        x.sign(3, 0, 1, 0);
        int away = filed(x, 4, 3, 1, 1, 0);
        x.certify(away, true);
        Check.refused("youths: 17 in another land, by an offer", x, CANNOT, () -> x.complete(away));
        x.link(away);
        Check.due("youths: nor in a chain", false, x::canRun);
        Check.refused("youths: nor by running it", x, CANNOT, x::run);
        x.days(1);
        Check.due("youths: 18, as a youth", 18, () -> x.enrol(0, 4));
        Check.due("youths: 18, by a contract", 0L, () -> x.sign(1, 0, 1, 0));
        Check.due("youths: 18, on loan", 2, () -> x.lend(2, 4, 1, 0, 0));
        Check.due("youths: 18, in a chain", true, x::canRun);
        Check.due("youths: 18, by an offer", 1L, () -> x.complete(away));
    }

    // ---- contracts

    private static void whoCanSign() {
        TransferHall x = clubs(0);
        x.player(AGE_16 - 1, 0);
        x.player(AGE_16, 0);
        x.player(AGE_21, 0);
        Check.refused("contracts: a day short of 16", x, CANNOT, () -> x.sign(0, 0, 1, 0));
        Check.due("contracts: 16", 0L, () -> x.sign(1, 0, 1, 0));
        x.sign(2, 0, 1, 0);
        Check.refused("contracts: has one", x, CANNOT, () -> x.sign(2, 1, 1, 0));
        x.lend(2, 1, 1, 0, 0);
        Check.refused("contracts: in the midst of a loan, with the club that borrowed", x, CANNOT, () -> x.sign(2, 1, 1, 0));
        x.days(1);
        Check.due("contracts: the day of 16", 0L, () -> x.sign(0, 0, 1, 0));
        x.days(358);
        Check.refused("contracts: on its last day", x, CANNOT, () -> x.sign(1, 1, 1, 0));
        x.days(1);
        Check.due("contracts: on the day behind it", 0L, () -> x.sign(1, 1, 1, 0));
    }

    /** The last day ahead of today on which a window was open, and a contract that began behind it or ended on it. */
    private static void lastOpenDay() {
        TransferHall x = clubs(1000);
        x.player(AGE_21, 0);
        x.days(30);
        Check.due("contracts: free on the last open day", 0L, () -> x.sign(0, 0, 2, 0));
        x.setWindow(0, false, 30, 30);
        int one = filed(x, 1, 0, 1, 1, 0);
        x.days(10);
        x.complete(one);
        x.rule(one);
        Check.refused("contracts: had one on its first day", x, CANNOT, () -> x.sign(0, 2, 1, 0));
        x.setWindow(0, false, 40, 40);
        x.days(1);
        Check.due("contracts: none on the day on which it ended", 0L, () -> x.sign(0, 2, 1, 0));

        TransferHall y = clubs(1000);
        y.player(AGE_21, 0);
        y.days(30);
        y.sign(0, 0, 2, 0);
        y.setWindow(0, false, 30, 30);
        int other = filed(y, 1, 0, 1, 1, 0);
        y.days(10);
        y.complete(other);
        y.rule(other);
        y.setWindow(0, false, 180, 239);
        Check.due("contracts: one that began behind that day was none on it", 0L, () -> y.sign(0, 2, 1, 0));

        TransferHall z = clubs(0);
        z.player(AGE_21, 0);
        z.setWindow(0, true, 1, 1);
        z.setWindow(0, false, 1, 1);
        Check.refused("contracts: without such a day, on the day 0", z, CANNOT, () -> z.sign(0, 0, 1, 0));
        z.setWindow(1, true, 359, 359);
        z.setWindow(1, false, 359, 359);
        z.days(2);
        Check.refused("contracts: without such a day from the day 0 on", z, CANNOT, () -> z.sign(0, 4, 1, 0));
        Check.due("contracts: yesterday was one", 0L, () -> z.sign(0, 0, 1, 0));
        z.player(AGE_21, 0);
        z.days(358);
        Check.due("contracts: 359 days ago was one", 0L, () -> z.sign(1, 0, 1, 0));
    }

    private static void clubsOfAYear() {
        TransferHall x = clubs(1000);
        x.player(AGE_21 - 100, 0);
        x.player(AGE_21 - 100, 0);
        x.player(AGE_21 - 100, 0);
        for (int player = 0; player < 3; player++) {
            x.sign(player, 0, 2, 0);
        }
        x.days(1);
        x.lend(0, 1, 1, 0, 0);
        x.complete(filed(x, 1, 1, 0, 1, 0));
        x.lend(2, 1, 1, 0, 0);
        x.days(1);
        Check.due("contracts: the third club of a year, on loan", 3, () -> x.lend(0, 2, 1, 0, 0));
        Check.due("contracts: the third club of a year, by an offer", 0L, () -> x.complete(filed(x, 2, 1, 0, 1, 0)));
        Check.due("contracts: a loan's club counts", 0L, () -> x.complete(filed(x, 2, 2, 0, 1, 0)));
        x.days(1);
        Check.refused("contracts: the fourth one, on loan", x, CANNOT, () -> x.lend(0, 3, 1, 0, 0));
        int fourth = filed(x, 3, 1, 0, 1, 0);
        Check.refused("contracts: the fourth one, by an offer", x, CANNOT, () -> x.complete(fourth));
        Check.refused("contracts: the fourth one, behind a loan", x, CANNOT, () -> x.lend(2, 3, 1, 0, 0));
        x.link(fourth);
        Check.due("contracts: nor in a chain", false, x::canRun);

        TransferHall y = clubs(1000);
        y.player(AGE_18, 0);
        for (int i = 0; i < 3; i++) {
            y.enrol(0, i);
            y.days(1);
            y.leave(0);
        }
        Check.refused("contracts: the fourth one, as a youth", y, CANNOT, () -> y.enrol(0, 3));
        Check.refused("contracts: the fourth one, by a contract", y, CANNOT, () -> y.sign(0, 3, 1, 0));
        Check.due("contracts: the third one again, with training money for two", 20L, () -> y.sign(0, 2, 1, 0));
    }

    private static void clubsOverTheEndOfAYear() {
        TransferHall x = clubs(0);
        x.player(13 * 360, 0);
        x.days(359);
        x.enrol(0, 0);
        x.days(1);
        x.leave(0);
        for (int i = 1; i < 4; i++) {
            int club = i;
            Check.due("contracts: the last day of a year is not of the next one", 14, () -> x.enrol(0, club));
            x.days(1);
            x.leave(0);
        }
        Check.refused("contracts: but three of that year are", x, CANNOT, () -> x.enrol(0, 0));

        TransferHall y = clubs(0);
        y.player(13 * 360, 0);
        y.days(359);
        y.enrol(0, 0);
        y.days(2);
        y.leave(0);
        for (int i = 1; i < 3; i++) {
            y.enrol(0, i);
            y.days(1);
            y.leave(0);
        }
        Check.refused("contracts: a stint over the end of the year is of both", y, CANNOT, () -> y.enrol(0, 3));
        y.days(356);
        Check.refused("contracts: on the last day of the year", y, CANNOT, () -> y.enrol(0, 3));
        y.days(1);
        Check.due("contracts: not in the year behind it", 15, () -> y.enrol(0, 3));
    }

    private static void trainingMoneyIsThere() {
        int[] rates = {90, 60, 30, 10};
        for (int i = 0; i < 4; i++) {
            TransferHall x = new TransferHall();
            x.club(0, 1, 0);
            int rate = rates[i];
            x.club(0, i + 1, 7 * rate - 1);
            x.player(AGE_18, 0);
            x.enrol(0, 0);
            x.days(7);
            Check.due("contracts: the category " + (i + 1), 7L * rate, () -> x.training(0, 1));
            Check.refused("contracts: less than that by one", x, STATE, () -> x.sign(0, 1, 1, 0));
            x.income(1, 1);
            Check.due("contracts: just that", 7L * rate, () -> x.sign(0, 1, 1, 0));
            Check.due("contracts: nothing is left", 0L, () -> x.cash(1));
            Check.due("contracts: the school has it", 7L * rate, () -> x.cash(0));
        }
    }

    private static void trainingMoneyReachesAll() {
        TransferHall x = clubs(1000);
        x.player(AGE_21 - 9, 0);
        for (int i = 0; i < 3; i++) {
            x.enrol(0, i);
            x.days(3 + i);
            x.leave(0);
            if (i < 2) {
                x.income(i, 1);
            }
        }
        Check.due("contracts: 3, 4 and 2 days, those behind the day of 21 left out", 90L, () -> x.training(0, 3));
        Check.due("contracts: not for the own days", 50L, () -> x.training(0, 1));
        x.days(348);
        Check.due("contracts: as many in another year", 90L, () -> x.sign(0, 3, 1, 0));
        Check.due("contracts: the first club", 1001L + 30, () -> x.cash(0));
        Check.due("contracts: the second club", 1001L + 40, () -> x.cash(1));
        Check.due("contracts: nothing behind the day of 21", 1000L + 20, () -> x.cash(2));
        Check.due("contracts: paid", 1000L - 90, () -> x.cash(3));

        TransferHall y = clubs(0);
        y.player(AGE_21 - 1, 0);
        y.enrol(0, 0);
        y.days(1);
        Check.due("contracts: the day ahead of that of 21 counts", 10L, () -> y.training(0, 1));
        y.days(1);
        Check.due("contracts: that of 21 does not", 10L, () -> y.training(0, 1));
    }

    private static void endOfContract() {
        for (int i = 1; i <= 5; i += 4) {
            int years = i;
            TransferHall x = clubs(0);
            x.player(AGE_21, 0);
            x.days(3);
            x.sign(0, 0, years, 2);
            for (int k = 1; k < years; k++) {
                x.days(360);
            }
            x.days(359);
            Check.due("contracts: the last day, of " + years + " years", 0, () -> x.boundTo(0));
            Check.due("contracts: registered on it", 0, () -> x.clubOf(0));
            x.days(1);
            Check.refused("contracts: over", x, NONE, () -> x.boundTo(0));
            Check.refused("contracts: the registration is too", x, NONE, () -> x.clubOf(0));
            Check.due("contracts: on that day", 3 + 360 * years, () -> x.stint(0, 0, 't'));
            Check.due("contracts: a wage for each day", -2L * 360 * years, () -> x.cash(0));
            x.days(1);
            Check.due("contracts: no more", -2L * 360 * years, () -> x.cash(0));
        }
    }

    // ---- offers

    private static void certificates() {
        TransferHall x = hall(100);
        int first = filed(x, 4, 0, 1, 1, 0);
        x.days(14);
        int late = filed(x, 4, 1, 1, 1, 0);
        Check.due("offers: waits on the day 14 behind filing", 'w', () -> x.state(first));
        Check.refused("offers: to complete it, it must be ready", x, CANNOT, () -> x.complete(first));
        Check.refused("offers: nor can it be linked", x, CANNOT, () -> x.link(first));
        x.days(1);
        Check.due("offers: ready on the day 15", 'r', () -> x.state(first));
        Check.refused("offers: no certificate then", x, CANNOT, () -> x.certify(first, false));
        Check.due("offers: that of another day waits", 'w', () -> x.state(late));
        x.days(13);
        Check.due("offers: and waits", 'w', () -> x.state(late));
        Check.due("offers: stopped on the last day", 'x', () -> x.certify(late, false));
        x.days(1);
        Check.due("offers: it is not ready by that", 'x', () -> x.state(late));
        Check.due("offers: completed without an answer", 1L, () -> x.complete(first));
    }

    private static void completion() {
        TransferHall x = hall(10);
        x.complete(filed(x, 1, 0, 20, 2, 0));
        int ready = filed(x, 1, 2, 9, 1, 0);
        int twin = x.offer(3, 2, 9, 1, 1, 0, 0);
        x.days(90);
        Check.due("offers: the buyer is banned", true, () -> x.isBanned(1));
        Check.due("offers: no window is open", false, () -> x.isOpen(0));
        Check.refused("offers: the cash is not there", x, STATE, () -> x.complete(ready));
        x.income(1, 9);
        Check.due("offers: neither a ban nor a window hinders, the cash is just there", 9L, () -> x.complete(ready));
        Check.due("offers: others are stopped", 'x', () -> x.state(twin));
        Check.due("offers: those of another player are not", 'c', () -> x.state(0));
        x.days(1);
        Check.due("offers: one completed earlier stays so", 'c', () -> x.state(0));

        TransferHall y = hall(10);
        int one = filed(y, 1, 0, 1, 1, 0);
        y.days(360);
        y.days(359);
        Check.due("offers: on the last day of the contract", 1L, () -> y.complete(one));
        Check.due("offers: the first club was there up to then", 719, () -> y.stint(0, 0, 't'));
        Check.due("offers: the new contract begins", 719 + 360, () -> y.contract(0, 'u'));

        TransferHall z = hall(10);
        int sold = filed(z, 1, 0, 0, 1, 0);
        int again = filed(z, 2, 0, 0, 1, 0);
        z.days(1);
        z.complete(sold);
        int next = z.offer(2, 0, 0, 1, 1, 0, 0);
        Check.due("offers: a later one for the new contract", 3, () -> { z.offer(3, 0, 0, 1, 1, 0, 0); return next + 1; });
        z.answer(next, true);
        z.file(next);
        z.complete(next);
        Check.due("offers: that which was stopped", 'x', () -> z.state(again));
        Check.due("offers: the completed one", 'c', () -> z.state(sold));
        Check.due("offers: the open one is stopped", 'x', () -> z.state(3));
    }

    private static void partsOfAFee() {
        int[][] wants = {{0, 0, 0, 0}, {1, 1, 1, 1}, {2, 1, 2, 2}, {3, 2, 1, 3}, {4, 2, 2, 1}, {7, 4, 3, 4}, {9999999, 5000000, 3333333, 2500002}};
        for (int[] want : wants) {
            for (int parts = 1; parts <= 4; parts++) {
                partsOfAFee(want[0], parts, want[parts - 1]);
            }
        }
    }

    private static void partsOfAFee(int fee, int parts, int first) {
        TransferHall x = hall(9999999);
        int one = filed(x, 1, 0, fee, parts, 0);
        long part = fee / parts;
        Check.due("offers: the first part of " + fee + " in " + parts, (long) first, () -> x.complete(one));
        Check.due("offers: what is owed of " + fee + " in " + parts, (long) fee - first, () -> x.owes(1));
        for (int later = 1; later <= 3; later++) {
            long before = part * Math.max(0, parts - later);
            long behind = part * Math.max(0, parts - later - 1);
            x.days(89);
            Check.due("offers: a day ahead of part " + later, before, () -> x.owes(1));
            x.days(1);
            Check.due("offers: due 90 days later, part " + later, behind, () -> x.owes(1));
        }
        Check.due("offers: all is paid", false, () -> x.isBanned(1));
        Check.due("offers: and found", true, x::isSound);
    }

    // ---- parts

    private static void smallParts() {
        int[][] wants = {{1, 0, 0}, {199, 0, 0}, {200, 0, 1}, {399, 0, 1}, {400, 1, 2}, {599, 1, 2}, {600, 1, 3}, {800, 2, 4}, {9999999, 24999, 49999}};
        for (int[] want : wants) {
            TransferHall x = hall(9999999);
            long shares = 4L * want[1] + 8L * want[2];
            x.complete(filed(x, 1, 0, want[0], 1, 0));
            Check.due("parts: the shares of " + want[0], shares, () -> x.federation(0));
            Check.due("parts: the rest of " + want[0], 9999999 + want[0] - shares, () -> x.cash(0));
            Check.due("parts: paid " + want[0], 9999999L - want[0], () -> x.cash(1));
        }
    }

    /** 720000 in one part: 1800 for a year up to that of 15, 5 for a day; 3600 for a later one, 10 for a day. */
    private static void yearsOfLife() {
        int[][] wants = {{12 * 360, 5}, {16 * 360 - 1, 5}, {16 * 360, 10}, {24 * 360 - 1, 10}, {24 * 360, 0}};
        for (int[] want : wants) {
            TransferHall x = clubs(0);
            x.player(want[0], 0);
            if (want[0] < AGE_16) {
                x.enrol(0, 0);
            } else {
                x.sign(0, 0, 1, 0);
            }
            Check.due("parts: no day yet, from day of life " + want[0], 0L, () -> x.trained(0, 720000, 0));
            x.days(1);
            Check.due("parts: a day, of life " + want[0], (long) want[1], () -> x.trained(0, 720000, 0));
            Check.due("parts: another club", 0L, () -> x.trained(0, 720000, 1));
        }
        TransferHall y = clubs(0);
        y.player(12 * 360, 0);
        y.enrol(0, 0);
        y.days(359);
        Check.due("parts: 359 days of a share of 1, cut", 0L, () -> y.trained(0, 400, 0));
        Check.due("parts: 359 days of a share of 2, cut", 1L, () -> y.trained(0, 800, 0));
        y.days(1);
        Check.due("parts: 360 days of a share of 1", 1L, () -> y.trained(0, 400, 0));
        Check.due("parts: and of 2", 2L, () -> y.trained(0, 800, 0));
        y.days(359);
        Check.due("parts: each year for itself", 1L, () -> y.trained(0, 400, 0));
        y.days(1);
        Check.due("parts: two years", 2L, () -> y.trained(0, 400, 0));
    }

    private static void keptHundredths() {
        TransferHall x = hall(1000);
        x.complete(filed(x, 1, 0, 0, 1, 50));
        x.complete(filed(x, 2, 0, 3, 1, 1));
        Check.due("parts: 50 hundredths of 3, cut", 1001L, () -> x.cash(0));
        Check.due("parts: the rest to the seller", 1002L, () -> x.cash(1));
        x.complete(filed(x, 3, 0, 99, 1, 0));
        Check.due("parts: 1 hundredth of 99, cut", 1002L, () -> x.cash(1));
        x.complete(filed(x, 0, 0, 100, 1, 0));
        Check.due("parts: 0 hundredths", 1000L - 99 + 100, () -> x.cash(3));

        TransferHall y = hall(1000);
        y.complete(filed(y, 1, 0, 0, 1, 50));
        y.complete(filed(y, 0, 0, 100, 1, 0));
        Check.due("parts: the earlier seller buys, and keeps its own share", 1000L - 100 + 50, () -> y.cash(0));
    }

    // ---- debts

    private static void debtsByTheirOrder() {
        TransferHall x = hall(100);
        x.complete(filed(x, 1, 0, 160, 2, 0));
        x.complete(filed(x, 1, 2, 40, 2, 0));
        Check.due("debts: both are owed", 100L, () -> x.owes(1));
        x.income(1, 79);
        x.days(90);
        Check.due("debts: the first one is too dear, the second one is paid by itself", 80L, () -> x.owes(1));
        Check.due("debts: of the cash", 59L, () -> x.cash(1));
        Check.due("debts: a ban for the first", true, () -> x.isBanned(1));

        TransferHall y = hall(100);
        y.complete(filed(y, 1, 0, 160, 2, 0));
        y.complete(filed(y, 1, 2, 40, 2, 0));
        y.income(1, 80);
        y.days(90);
        Check.due("debts: just the first one, which arose first", 20L, () -> y.owes(1));
        Check.due("debts: nothing is left", 0L, () -> y.cash(1));
        y.income(1, 19);
        y.days(1);
        Check.due("debts: less by one on a later day", true, () -> y.isBanned(1));
        y.income(1, 1);
        Check.due("debts: not ahead of the next day", true, () -> y.isBanned(1));
        y.days(1);
        Check.due("debts: on the first later day", 0L, () -> y.owes(1));
        Check.due("debts: no ban any more", false, () -> y.isBanned(1));

        TransferHall z = hall(100);
        z.complete(filed(z, 1, 0, 100, 2, 0));
        z.complete(filed(z, 0, 1, 100, 2, 0));
        z.complete(filed(z, 3, 2, 100, 1, 0));
        Check.due("debts: those of two clubs", 100L, () -> z.owes(0) + z.owes(1));
        z.days(90);
        Check.due("debts: what the first one pays is there for the second", 0L, () -> z.owes(0) + z.owes(1));
    }

    private static void debtsAndTheDay() {
        TransferHall x = hall(100);
        x.player(AGE_21, 0);
        x.sign(4, 1, 5, 1);
        x.complete(filed(x, 1, 0, 20, 2, 0));
        x.days(89);
        Check.due("debts: just the part and no wage", 1L, () -> x.cash(1));
        x.income(1, 9);
        Check.due("debts: 10 in the cash", 10L, () -> x.cash(1));
        Check.due("debts: not due is no ban", false, () -> x.isBanned(1));
        x.days(1);
        Check.due("debts: the wage of the day ahead is paid first", 9L, () -> x.cash(1));
        Check.due("debts: so the part is not", true, () -> x.isBanned(1));
        x.setWindow(0, true, 0, 359);
        x.player(AGE_21, 0);
        Check.refused("debts: who is banned signs nobody", x, STATE, () -> x.sign(5, 1, 1, 0));
    }

    // ---- loans

    private static void loanLimits() {
        TransferHall x = hall(100);
        Check.due("loans: to the last day of 360", 360, () -> x.lend(0, 1, 360, 0, 0));
        x.days(1);
        TransferHall y = clubs(0);
        y.player(AGE_21, 0);
        y.sign(0, 0, 1, 0);
        y.days(1);
        Check.refused("loans: behind the contract by one day", y, CANNOT, () -> y.lend(0, 1, 360, 0, 0));
        Check.due("loans: up to its end", 360, () -> y.lend(0, 1, 359, 0, 0));

        TransferHall z = clubs(0);
        for (int i = 0; i < 10; i++) {
            z.player(AGE_21, 0);
            z.sign(i, i < 6 ? 0 : 1, 2, 0);
        }
        z.lend(0, 1, 9, 0, 0);
        z.lend(1, 1, 9, 0, 0);
        Check.refused("loans: a third one between two clubs", z, STATE, () -> z.lend(2, 1, 9, 0, 0));
        Check.refused("loans: nor the other way", z, STATE, () -> z.lend(6, 0, 9, 0, 0));
        z.lend(2, 2, 9, 0, 0);
        z.lend(3, 2, 9, 0, 0);
        Check.refused("loans: a fifth one lent", z, STATE, () -> z.lend(4, 3, 9, 0, 0));
        z.lend(6, 2, 9, 0, 0);
        z.lend(7, 2, 9, 0, 0);
        Check.due("loans: four are borrowed", 4, () -> z.loans(2, false));
        z.player(AGE_21, 0);
        z.sign(10, 3, 2, 0);
        Check.refused("loans: a fifth one borrowed", z, STATE, () -> z.lend(10, 2, 9, 0, 0));
        z.recall(0);
        Check.due("loans: a recall makes room", 9, () -> z.lend(4, 3, 9, 0, 0));
        Check.due("loans: and between two clubs", 9, () -> z.lend(8, 0, 9, 0, 0));
        z.recall(2);
        Check.due("loans: and for those borrowed", 9, () -> z.lend(10, 2, 9, 0, 0));
        Check.due("loans: one of each way", 1, () -> z.loans(0, false));
    }

    private static void endOfLoan() {
        TransferHall x = hall(100);
        x.lend(0, 1, 1, 0, 0);
        x.lend(1, 0, 2, 0, 0);
        x.setWindow(0, true, 0, 0);
        x.days(1);
        Check.due("loans: ends on its day, in no window", 0, () -> x.clubOf(0));
        Check.due("loans: the other one goes on", 0, () -> x.clubOf(1));
        Check.refused("loans: no recall in no window", x, STATE, () -> x.recall(1));
        Check.refused("loans: no recall behind its end", x, CANNOT, () -> x.recall(0));
        x.days(1);
        Check.due("loans: ends on its day too", 1, () -> x.clubOf(1));

        TransferHall y = clubs(0);
        y.player(AGE_21, 0);
        y.sign(0, 0, 1, 4);
        y.lend(0, 1, 360, 0, 0);
        y.days(359);
        Check.due("loans: the last day of both", 1, () -> y.clubOf(0));
        y.days(1);
        Check.refused("loans: both are over", y, NONE, () -> y.clubOf(0));
        Check.due("loans: the wages were paid by the club with the contract", -1440L, () -> y.cash(0));
        Check.due("loans: and not by the other one", 0L, () -> y.cash(1));
        Check.due("loans: just the loan was a stint", 1, () -> y.stints(0));
    }

    /** Two loans of one lender and one borrower, each with a match, that end on one day. */
    private static TransferHall twoLoans(int cash, int price, int otherPrice) {
        TransferHall x = clubs(0);
        for (int i = 0; i < 2; i++) {
            x.player(AGE_21, 0);
            x.sign(i, 0, 2, 0);
        }
        if (cash > 0) {
            x.income(1, cash);
        }
        x.lend(1, 1, 5, 1, otherPrice);
        x.lend(0, 1, 5, 1, price);
        x.match(1, 2);
        x.appear(0, 1, 0);
        x.appear(0, 1, 1);
        return x;
    }

    private static void obligationAndCash() {
        TransferHall x = twoLoans(100, 100, 100);
        x.days(5);
        Check.due("loans: by players' numbers, the first one is bought", 1, () -> x.boundTo(0));
        Check.due("loans: nothing is left for the second one", 0, () -> x.boundTo(1));
        Check.due("loans: who goes back", 0, () -> x.clubOf(1));

        TransferHall y = twoLoans(100, 101, 100);
        y.days(5);
        Check.due("loans: less than the price by one", 0, () -> y.boundTo(0));
        Check.due("loans: just the price", 1, () -> y.boundTo(1));

        TransferHall z = twoLoans(0, 0, 1);
        z.days(5);
        Check.due("loans: a price of 0, and no cash", 1, () -> z.boundTo(0));
        Check.due("loans: a price of 1, and no cash", 0, () -> z.boundTo(1));

        TransferHall t = clubs(100);
        t.player(AGE_21, 0);
        t.player(AGE_21, 0);
        t.sign(0, 0, 2, 0);
        t.sign(1, 1, 2, 0);
        t.lend(0, 1, 5, 1, 100);
        t.lend(1, 2, 5, 1, 50);
        t.match(1, 2);
        t.appear(0, 1, 0);
        t.appear(0, 2, 1);
        t.days(5);
        Check.due("loans: the sale of a later player pays too late", 50L, () -> t.cash(1));
        Check.due("loans: both are bought", 3, () -> t.boundTo(0) + t.boundTo(1));
    }

    private static void obligationAndBan() {
        TransferHall x = hall(100);
        x.complete(filed(x, 1, 3, 200, 2, 0));
        x.income(1, 60);
        x.setWindow(0, true, 80, 80);
        x.days(80);
        x.lend(0, 1, 20, 1, 60);
        x.match(1, 2);
        x.appear(0, 1, 0);
        x.setWindow(0, true, 0, 0);
        x.days(10);
        Check.due("loans: the club is banned", true, () -> x.isBanned(1));
        x.days(10);
        Check.due("loans: and buys all the same", 1, () -> x.boundTo(0));
        Check.due("loans: for the price", 0L, () -> x.cash(1));
        Check.due("loans: the debt stays", 100L, () -> x.owes(1));

        TransferHall y = hall(100);
        y.complete(filed(y, 1, 3, 120, 2, 0));
        y.income(1, 20);
        y.setWindow(0, true, 80, 80);
        y.days(80);
        y.lend(0, 1, 10, 1, 30);
        y.match(1, 2);
        y.appear(0, 1, 0);
        y.days(10);
        Check.due("loans: looked at ahead of debts", 1, () -> y.boundTo(0));
        Check.due("loans: the debt of that day finds 30 of 60", true, () -> y.isBanned(1));
        Check.due("loans: which are left", 30L, () -> y.cash(1));
    }

    private static void matchesOnLoan() {
        TransferHall x = hall(100);
        x.lend(0, 1, 5, 2, 1);
        x.lend(3, 2, 5, 3, 1);
        for (int i = 0; i < 3; i++) {
            x.match(1, 2);
            x.appear(i, 1, 1);
            x.appear(i, 2, 2);
        }
        x.appear(0, 1, 0);
        x.appear(1, 1, 0);
        x.appear(0, 2, 3);
        x.appear(1, 2, 3);
        x.days(5);
        Check.due("loans: two of two matches", 1, () -> x.boundTo(0));
        Check.due("loans: two of three, those of others do not count", 3, () -> x.boundTo(3));

        TransferHall y = hall(100);
        y.lend(0, 1, 5, 0, 1);
        y.match(1, 2);
        y.appear(0, 1, 1);
        y.appear(0, 2, 0);
        Check.due("loans: in no match for that club", 0, () -> y.recall(0));
        y.lend(0, 1, 5, 1, 1);
        y.match(1, 2);
        y.match(1, 2);
        y.match(1, 2);
        for (int i = 1; i < 4; i++) {
            y.appear(i, 1, 0);
        }
        y.days(1);
        y.recall(0);
        y.lend(0, 1, 5, 1, 1);
        y.days(5);
        Check.due("loans: matches of an earlier loan do not count", 0, () -> y.boundTo(0));

        TransferHall z = hall(100);
        z.lend(0, 1, 5, 1, 1);
        for (int i = 0; i < 3; i++) {
            z.match(1, 2);
            z.appear(i, 1, 0);
        }
        z.days(5);
        Check.due("loans: more than so many", 1, () -> z.boundTo(0));
    }

    // ---- matches

    private static void entitled() {
        TransferHall x = hall(100);
        x.player(AGE_21, 0);
        x.match(0, 1);
        Check.due("matches: not registered yet", false, () -> x.appear(0, 0, 4));
        x.days(1);
        x.sign(4, 0, 1, 0);
        Check.due("matches: a registration from the next day on is not of that day", true, () -> x.protest(0, 1));
        Check.due("matches: who has lost", 0, () -> x.loser(0));
        x.match(0, 1);
        Check.due("matches: but of its own", true, () -> x.appear(1, 0, 4));
        Check.due("matches: so nothing is lost", false, () -> x.protest(1, 1));

        TransferHall y = clubs(0);
        y.player(AGE_21, 0);
        y.sign(0, 0, 1, 0);
        y.days(359);
        y.match(0, 1);
        Check.due("matches: on the last day of a contract", true, () -> y.appear(0, 0, 0));
        y.days(1);
        y.match(0, 1);
        Check.due("matches: on the day behind it", false, () -> y.appear(1, 0, 0));
        Check.due("matches: that of the day ahead stays", false, () -> y.protest(0, 1));
        Check.due("matches: that of the day behind is lost", true, () -> y.protest(1, 1));
    }

    private static void protests() {
        for (int i = 0; i < 4; i++) {
            TransferHall x = hall(0);
            x.match(0, 1);
            x.appear(0, 0, 2);
            if (i > 0) {
                x.days(i);
            }
            if (i <= 2) {
                Check.due("matches: a protest behind " + i + " days", true, () -> x.protest(0, 1));
                Check.due("matches: 3 points", 3, () -> x.points(1));
            } else {
                Check.refused("matches: a protest behind 3 days", x, CANNOT, () -> x.protest(0, 1));
                Check.due("matches: no points", 0, () -> x.points(1));
            }
            Check.due("matches: none for the other one", 0, () -> x.points(0));
        }
        TransferHall y = hall(0);
        y.match(0, 1);
        y.appear(0, 0, 2);
        y.appear(0, 0, 3);
        Check.due("matches: the other one's protest loses nothing", false, () -> y.protest(0, 0));
        y.protest(0, 1);
        Check.due("matches: two who are not entitled, and one match", 3, () -> y.points(1));
        y.match(0, 1);
        y.protest(1, 1);
        Check.due("matches: nobody was in it", 3, () -> y.points(1));
    }

    private static void rulings() {
        int[] days = {0, 1, 59, 60, 61};
        for (int wait : days) {
            TransferHall x = hall(1000);
            int one = filed(x, 1, 0, 900, 4, 0);
            x.complete(one);
            if (wait > 0) {
                x.days(wait);
            }
            if (wait > 60) {
                Check.refused("matches: a ruling behind 61 days", x, CANNOT, () -> x.rule(one));
                continue;
            }
            Check.due("matches: a ruling behind " + wait + " days", false, () -> x.rule(one));
            Check.due("matches: the money is back", 1000L, () -> x.cash(1));
            Check.due("matches: and not with the seller", 1000L, () -> x.cash(0));
            Check.due("matches: nor with the federation", 0L, () -> x.federation(0));
            Check.due("matches: parts that are due are no more", 0L, () -> x.owes(1));
            Check.refused("matches: without a registration", x, NONE, () -> x.clubOf(0));
            Check.refused("matches: without a contract", x, NONE, () -> x.boundTo(0));
            Check.refused("matches: no stint of it", x, NONE, () -> x.stint(0, 0, 'c'));
            Check.refused("matches: void is not completed", x, CANNOT, () -> x.rule(one));
        }
        TransferHall y = hall(1000);
        int one = filed(y, 1, 0, 900, 1, 0);
        y.complete(one);
        y.sign(y.player(AGE_21, 0), 0, 5, 9999);
        y.days(1);
        y.rule(one);
        Check.due("matches: goes back, cash or not", 1000L - 9999, () -> y.cash(0));
        Check.due("matches: sound below 0", true, y::isSound);

        TransferHall z = hall(1000);
        char[] states = {'o', 'n', 'a', 'r'};
        for (int i = 0; i < 4; i++) {
            int number = z.offer(1, 0, 0, 1, 1, 0, 0);
            if (i > 0) {
                z.answer(number, i > 1);
            }
            if (i > 2) {
                z.file(number);
            }
            char state = states[i];
            Check.due("matches: in the state " + state, state, () -> z.state(number));
            Check.refused("matches: no ruling in the state " + state, z, CANNOT, () -> z.rule(number));
        }
        int waiting = filed(z, 4, 0, 0, 1, 0);
        Check.refused("matches: no ruling in the state w", z, CANNOT, () -> z.rule(waiting));
        z.certify(waiting, false);
        Check.refused("matches: no ruling in the state x", z, CANNOT, () -> z.rule(waiting));
    }

    /** The club that bought plays at home and as the guest, and just one of both has an end by the ruling. */
    private static void rulingsAndMatches() {
        for (int i = 0; i < 4; i++) {
            boolean isHome = i % 2 == 0;
            boolean isProtested = i < 2;
            TransferHall x = hall(1000);
            int one = filed(x, 1, 0, 0, 1, 0);
            x.complete(one);
            x.match(isHome ? 1 : 2, isHome ? 2 : 1);
            x.appear(0, 1, 0);
            if (isProtested) {
                Check.due("matches: entitled up to the ruling", false, () -> x.protest(0, 2));
            }
            x.days(2);
            Check.due("matches: the ruling loses it, if the other club had protested", isProtested, () -> x.rule(one));
            Check.due("matches: points", isProtested ? 3 : 0, () -> x.points(2));
            if (isProtested) {
                Check.due("matches: the loser", 1, () -> x.loser(0));
            } else {
                Check.refused("matches: no loser", x, NONE, () -> x.loser(0));
                Check.due("matches: or protests in time", true, () -> x.protest(0, 2));
                Check.due("matches: points by that", 3, () -> x.points(2));
            }
        }
        TransferHall y = hall(1000);
        int late = filed(y, 1, 0, 0, 1, 0);
        y.complete(late);
        y.match(1, 2);
        y.appear(0, 1, 0);
        y.days(3);
        y.rule(late);
        Check.refused("matches: not in time", y, CANNOT, () -> y.protest(0, 2));
        Check.refused("matches: so it is not lost", y, NONE, () -> y.loser(0));

        TransferHall z = hall(1000);
        z.match(0, 2);
        z.appear(0, 0, 0);
        z.protest(0, 2);
        z.days(1);
        int sold = filed(z, 1, 0, 0, 1, 0);
        z.complete(sold);
        Check.due("matches: those for the club that sold are not by it", false, () -> z.rule(sold));
        Check.refused("matches: and stay", z, NONE, () -> z.loser(0));
    }

    // ---- accounts

    private static void accounts() {
        int[][] wants = {{2999, 0, 0}, {3000, 0, 0}, {3001, 0, -6}};
        for (int[] want : wants) {
            TransferHall x = hall(9999999);
            int one = x.offer(1, 0, want[0], 1, 1, 0, 0);
            x.answer(one, true);
            x.file(one);
            x.days(1);
            x.complete(one);
            x.days(359);
            Check.due("accounts: the fee of " + want[0], (long) -want[0], () -> x.result(1, 0));
            Check.due("accounts: less than -3000 or not, " + want[0], want[2], () -> x.points(1));
            Check.due("accounts: nothing for who sold", 0L, () -> x.result(0, 0));
        }
        TransferHall y = hall(9999999);
        int cut = y.offer(1, 0, 2, 1, 3, 0, 0);
        y.answer(cut, true);
        y.file(cut);
        y.complete(cut);
        y.days(360);
        Check.due("accounts: 2 by 3 years, cut", 0L, () -> y.result(1, 0));

        TransferHall z = clubs(0);
        z.player(AGE_21, 0);
        z.sign(0, 0, 5, 10);
        int[] comes = {2600, 2600, 2600, 2599, 2601};
        int[] lost = {0, 0, 0, -6, -6};
        for (int i = 0; i < 5; i++) {
            int year = i;
            z.income(0, comes[i]);
            z.days(359);
            Check.refused("accounts: a year that has not ended on its last day, " + i, z, NONE, () -> z.result(0, year));
            z.days(1);
            Check.due("accounts: and has on the next one, " + i, comes[i] - 3600L, () -> z.result(0, year));
            Check.due("accounts: three years, or as many as there are, up to year " + i, lost[i], () -> z.points(0));
        }
    }
}
