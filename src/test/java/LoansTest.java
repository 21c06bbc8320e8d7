/** Promises 31 to 33: loans, recalls, limits and obligations. */
public final class LoansTest {
    private static final Class<IllegalArgumentException> ARGUMENT = IllegalArgumentException.class;
    private static final Class<IllegalStateException> STATE = IllegalStateException.class;
    private static final Class<IndexOutOfBoundsException> INDEX = IndexOutOfBoundsException.class;
    private static final Class<UnsupportedOperationException> CANNOT = UnsupportedOperationException.class;
    private static final String NOTHING = "throws NoSuchElementException";

    public static void main(String[] args) {
        lend();
        lendRules();
        limits();
        recall();
        obligation();
        noObligation();
        Check.end("LoansTest");
    }

    /** Six clubs of the land 0 and one of the land 1; eight players of 20 years under contract at club 0 for a year. */
    private static TransferHall hall(int cash) {
        TransferHall x = new TransferHall();
        for (int i = 0; i < 7; i++) {
            x.club(i / 6, 4, cash);
        }
        for (int i = 0; i < 8; i++) {
            x.player(7200, 0);
            x.sign(i, 0, 1, 3);
        }
        return x;
    }

    private static void lend() {
        TransferHall x = hall(10000);
        x.days(2);
        Check.due("promise 31: the day of its end", 12, () -> x.lend(0, 1, 10, 0, 0));
        Check.due("promise 13: registered", 1, () -> x.clubOf(0));
        Check.due("promise 14: bound", 0, () -> x.boundTo(0));
        Check.due("promise 33: lent", 1, () -> x.loans(0, true));
        Check.due("promise 33: not borrowed", 0, () -> x.loans(0, false));
        Check.due("promise 33: borrowed", 1, () -> x.loans(1, false));
        Check.due("promise 33: not lent", 0, () -> x.loans(1, true));
        Check.due("promise 18: on loan", 2, () -> x.stint(0, 1, 'k'));
        x.days(9);
        Check.due("promise 13: still there", 1, () -> x.clubOf(0));
        Check.due("terms: the wage is paid by the club with the contract", 10000L - 11 * 8 * 3, () -> x.cash(0));
        Check.due("promise 34: not by the other one", 10000L, () -> x.cash(1));
        x.days(1);
        Check.due("promise 13: back", 0, () -> x.clubOf(0));
        Check.due("promise 33: over", 0, () -> x.loans(0, true));
        Check.due("promise 18: the loan ended on its day", 12, () -> x.stint(0, 1, 't'));
        Check.due("promise 18: a registration by the contract again", 1, () -> x.stint(0, 2, 'k'));
        Check.due("promise 31: up to the end of the contract", 360, () -> x.lend(1, 1, 348, 0, 0));
        x.days(348);
        Check.due("terms: both end", NOTHING, () -> x.clubOf(1));
        Check.due("terms: no stint of no day", 2, () -> x.stints(1));
        Check.refused("promise 33: no such club", x, INDEX, () -> x.loans(7, true));
        Check.refused("promise 33: club -1", x, INDEX, () -> x.loans(-1, false));
    }

    private static void lendRules() {
        TransferHall x = hall(100);
        x.player(7200, 0);
        x.player(17 * 360, 0);
        x.sign(9, 0, 5, 0);
        Check.refused("promise 31: no such player", x, INDEX, () -> x.lend(10, 1, 1, 0, 0));
        Check.refused("promise 31: no such club, the index first", x, INDEX, () -> x.lend(0, 7, 0, 0, 0));
        Check.refused("promise 31: 0 days", x, ARGUMENT, () -> x.lend(0, 1, 0, 0, 0));
        Check.refused("promise 31: 361 days", x, ARGUMENT, () -> x.lend(0, 1, 361, 0, 0));
        Check.refused("promise 31: -1 matches", x, ARGUMENT, () -> x.lend(0, 1, 1, -1, 0));
        Check.refused("promise 31: 41 matches", x, ARGUMENT, () -> x.lend(0, 1, 1, 41, 0));
        Check.refused("promise 31: price -1", x, ARGUMENT, () -> x.lend(0, 1, 1, 0, -1));
        Check.refused("promise 31: price 10000000, the argument first", x, ARGUMENT, () -> x.lend(8, 1, 1, 0, 10000000));
        Check.refused("promise 31: no contract", x, CANNOT, () -> x.lend(8, 1, 1, 0, 0));
        Check.refused("promise 31: to the own club", x, CANNOT, () -> x.lend(0, 0, 1, 0, 0));
        Check.refused("promise 31: younger than 18 in another land", x, CANNOT, () -> x.lend(9, 6, 1, 0, 0));
        x.days(1);
        Check.refused("promise 31: behind the contract", x, CANNOT, () -> x.lend(0, 1, 360, 0, 0));
        Check.due("promise 31: the most", 361, () -> x.lend(9, 1, 360, 40, 9999999));
        Check.refused("promise 31: on loan", x, CANNOT, () -> x.lend(9, 2, 1, 0, 0));
        x.setWindow(1, true, 1, 1);
        x.days(30);
        Check.refused("promise 31: no window", x, CANNOT, () -> x.lend(0, 1, 1, 0, 0));
        x.setWindow(1, true, 31, 31);
        Check.due("promise 31: a window in the land of the other club", 32, () -> x.lend(0, 6, 1, 0, 0));
        x.setWindow(0, true, 0, 100);
        x.days(1);
        x.lend(0, 1, 1, 0, 0);
        x.days(1);
        Check.refused("promise 31: a fourth club in the year", x, CANNOT, () -> x.lend(0, 2, 1, 0, 0));
        Check.due("promise 31: one of the three", 34, () -> x.lend(0, 1, 1, 0, 0));
    }

    private static void limits() {
        TransferHall x = hall(100);
        for (int i = 8; i < 14; i++) {
            x.player(7200, 0);
            x.sign(i, i < 12 ? 1 : 2, 1, 0);
        }
        x.lend(0, 1, 5, 0, 0);
        x.lend(8, 0, 5, 0, 0);
        Check.refused("promise 31: two of both between two clubs", x, STATE, () -> x.lend(1, 1, 5, 0, 0));
        Check.refused("promise 31: in either way", x, STATE, () -> x.lend(9, 0, 5, 0, 0));
        x.lend(1, 2, 5, 0, 0);
        x.lend(2, 2, 5, 0, 0);
        Check.due("promise 31: the fourth lent", 5, () -> x.lend(3, 3, 5, 0, 0));
        Check.due("promise 33: four lent", 4, () -> x.loans(0, true));
        Check.refused("promise 31: a fifth one lent", x, STATE, () -> x.lend(4, 3, 5, 0, 0));
        Check.refused("promise 31: what cannot be first", x, CANNOT, () -> x.lend(0, 3, 5, 0, 0));
        x.lend(9, 2, 5, 0, 0);
        Check.due("promise 31: the fourth borrowed", 5, () -> x.lend(10, 2, 5, 0, 0));
        Check.due("promise 33: four borrowed", 4, () -> x.loans(2, false));
        x.recall(0);
        x.player(7200, 0);
        x.sign(14, 3, 1, 0);
        Check.refused("promise 31: a fifth one borrowed", x, STATE, () -> x.lend(14, 2, 5, 0, 0));
        x.days(5);
        Check.due("promise 33: all over", 0, () -> x.loans(2, false));
        Check.due("promise 31: free again", 10, () -> x.lend(14, 2, 5, 0, 0));
    }

    private static void recall() {
        TransferHall x = hall(100);
        Check.refused("promise 32: no loan", x, CANNOT, () -> x.recall(0));
        Check.refused("promise 32: no such player", x, INDEX, () -> x.recall(8));
        Check.refused("promise 32: player -1", x, INDEX, () -> x.recall(-1));
        x.match(0, 6);
        x.appear(0, 0, 0);
        x.lend(0, 6, 100, 9, 0);
        for (int i = 1; i < 4; i++) {
            x.match(6, i);
        }
        x.appear(1, 6, 0);
        x.appear(2, 6, 0);
        Check.due("promise 45: for another club than that of the loan", false, () -> x.appear(3, 3, 0));
        x.setWindow(0, true, 0, 0);
        x.days(1);
        Check.refused("promise 32: no window in the land of the contract", x, STATE, () -> x.recall(0));
        x.setWindow(0, true, 1, 1);
        x.setWindow(1, true, 0, 0);
        Check.due("promise 32: two matches on it", 2, () -> x.recall(0));
        Check.due("promise 13: back", 0, () -> x.clubOf(0));
        Check.due("promise 18: the loan", 1, () -> x.stint(0, 0, 't'));
        Check.refused("promise 32: no loan any more", x, CANNOT, () -> x.recall(0));
        x.setWindow(1, true, 1, 1);
        x.lend(0, 6, 1, 0, 0);
        Check.due("promise 32: on the same day, no match on it", 0, () -> x.recall(0));
        Check.due("promise 17: that is no stint", 2, () -> x.stints(0));
    }

    /** A loan of the player 0 to the club 1 with one match, and the match. */
    private static TransferHall lent(int cash, int days, int price) {
        TransferHall x = hall(cash);
        x.lend(0, 1, days, 1, price);
        x.match(1, 2);
        x.appear(0, 1, 0);
        return x;
    }

    private static void obligation() {
        TransferHall x = lent(5000, 30, 4000);
        int open = x.offer(2, 0, 9, 1, 1, 0, 0);
        x.setRelease(0, 7);
        x.days(29);
        Check.due("terms: not ahead of its day", 0, () -> x.boundTo(0));
        x.days(1);
        Check.due("terms: bought", 1, () -> x.boundTo(0));
        Check.due("terms: registered", 1, () -> x.clubOf(0));
        Check.due("terms: by the contract", 1, () -> x.stint(0, 1, 'k'));
        Check.due("terms: for one year", 390, () -> x.contract(0, 'u'));
        Check.due("terms: the same wage", 3, () -> x.contract(0, 'w'));
        Check.due("terms: the price is the fee", 4000, () -> x.contract(0, 'f'));
        Check.due("terms: no share", 0, () -> x.contract(0, 's'));
        Check.due("terms: no release", -1, () -> x.contract(0, 'r'));
        // A year of 4000 is 10 up to that of 15 and 20 later: club 1 had the player for 30 days of the year of 20.
        Check.due("terms: paid, less the own share", 1000L + 20 * 30 / 360, () -> x.cash(1));
        Check.due("terms: the seller has what no year takes", 5000L - 30 * 24 + (4000 - 4 * 10 - 8 * 20), () -> x.cash(0));
        Check.due("terms: the federation has what is left of the years", 200L - 20 * 30 / 360, () -> x.federation(0));
        Check.due("terms: offers stay as they are", 'o', () -> x.state(open));
        Check.due("promise 33: no loan", 0, () -> x.loans(0, true));
        x.answer(open, true);
        Check.due("promise 51: sound", true, x::isSound);

        TransferHall y = lent(5000, 30, 4000);
        y.setWindow(0, true, 0, 0);
        y.setWindow(0, false, 0, 0);
        y.days(30);
        Check.due("terms: no window is looked at", 1, () -> y.boundTo(0));

        TransferHall z = hall(1000);
        int sold = z.offer(1, 0, 0, 1, 3, 0, 50);
        z.answer(sold, true);
        z.file(sold);
        z.complete(sold);
        z.lend(0, 2, 10, 1, 100);
        z.match(2, 3);
        z.appear(0, 2, 0);
        long before = z.cash(0);
        z.days(10);
        Check.due("terms: an earlier seller keeps the share", before - 10 * 21 + 50, () -> z.cash(0));
    }

    private static void noObligation() {
        TransferHall x = lent(5000, 360, 0);
        x.days(360);
        Check.due("terms: the contract does not go on", NOTHING, () -> x.boundTo(0));

        TransferHall y = lent(5000, 359, 0);
        y.days(359);
        Check.due("terms: it goes on for one day", 1, () -> y.boundTo(0));

        TransferHall j = lent(5000, 30, 5000);
        j.days(30);
        Check.due("terms: just the cash", 1, () -> j.boundTo(0));
        Check.refused("promise 32: the loan is over", j, CANNOT, () -> j.recall(0));
        Check.due("promise 31: can be lent again", 40, () -> { j.setWindow(0, true, 30, 30); return j.lend(0, 0, 10, 0, 0); });
        Check.due("promise 33: to the first club", 1, () -> j.loans(1, true));

        TransferHall z = lent(5000, 30, 5001);
        z.days(30);
        Check.due("terms: the cash is not there", 0, () -> z.boundTo(0));
        Check.due("terms: back", 0, () -> z.clubOf(0));

        TransferHall t = hall(5000);
        t.lend(0, 1, 10, 2, 1);
        t.lend(1, 1, 10, 0, 1);
        t.match(1, 2);
        t.appear(0, 1, 0);
        t.appear(0, 1, 1);
        t.match(2, 3);
        t.appear(1, 2, 0);
        t.days(10);
        Check.due("terms: one entitled match of two", 0, () -> t.boundTo(0));
        Check.due("terms: with 0 matches there is no obligation", 0, () -> t.boundTo(1));

        TransferHall s = lent(5000, 30, 4000);
        Check.due("promise 32: recalled", 1, () -> s.recall(0));
        s.days(30);
        Check.due("terms: no sale behind a recall", 0, () -> s.boundTo(0));
    }
}
