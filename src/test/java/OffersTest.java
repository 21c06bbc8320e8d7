/** Promises 20 to 30: offers, chains and rulings. */
public final class OffersTest {
    private static final Class<IllegalArgumentException> ARGUMENT = IllegalArgumentException.class;
    private static final Class<IllegalStateException> STATE = IllegalStateException.class;
    private static final Class<IndexOutOfBoundsException> INDEX = IndexOutOfBoundsException.class;
    private static final Class<UnsupportedOperationException> CANNOT = UnsupportedOperationException.class;
    private static final String NOTHING = "throws NoSuchElementException";

    public static void main(String[] args) {
        offer();
        answer();
        file();
        certify();
        complete();
        completeRules();
        parts();
        laterShare();
        debts();
        link();
        run();
        canRun();
        rule();
        ruleReachesBack();
        Check.end("OffersTest");
    }

    /** Clubs 0 to 2 of the land 0, 3 of the land 1; players 0 to 2, 20 years old, under contract at 0 to 2 for two years. */
    private static TransferHall hall(int cash) {
        TransferHall x = new TransferHall();
        for (int i = 0; i < 4; i++) {
            x.club(i / 3, 4, cash);
        }
        for (int i = 0; i < 3; i++) {
            x.player(7200, 0);
            x.sign(i, i, 2, 0);
        }
        return x;
    }

    /** An offer that is accepted and filed. */
    private static int filed(TransferHall x, int buyer, int player, int fee, int parts, int share) {
        int number = x.offer(buyer, player, fee, parts, 1, 0, share);
        x.answer(number, true);
        x.file(number);
        return number;
    }

    private static void offer() {
        TransferHall x = hall(0);
        x.player(7200, 0);
        Check.due("promise 20: the first", 0, () -> x.offer(1, 0, 0, 1, 1, 0, 0));
        Check.due("promise 20: the second", 1, () -> x.offer(3, 0, 9999999, 4, 5, 9999, 50));
        Check.due("promise 24: open", 'o', () -> x.state(1));
        Check.refused("promise 20: no such club", x, INDEX, () -> x.offer(4, 0, -1, 1, 1, 0, 0));
        Check.refused("promise 20: no such player, the index first", x, INDEX, () -> x.offer(0, 4, -1, 1, 1, 0, 0));
        int[][] wrong = {{-1, 1, 1, 0, 0}, {10000000, 1, 1, 0, 0}, {0, 0, 1, 0, 0}, {0, 5, 1, 0, 0}, {0, 1, 0, 0, 0}, {0, 1, 6, 0, 0},
            {0, 1, 1, -1, 0}, {0, 1, 1, 10000, 0}, {0, 1, 1, 0, -1}, {0, 1, 1, 0, 51}};
        for (int i = 0; i < wrong.length; i++) {
            int[] w = wrong[i];
            Check.refused("promise 20: a number out of range, " + i + ", the argument first", x, ARGUMENT, () -> x.offer(0, 0, w[0], w[1], w[2], w[3], w[4]));
        }
        Check.refused("promise 20: with this club", x, CANNOT, () -> x.offer(0, 0, 0, 1, 1, 0, 0));
        Check.refused("promise 20: no contract", x, CANNOT, () -> x.offer(0, 3, 0, 1, 1, 0, 0));
        x.lend(0, 1, 10, 0, 0);
        Check.due("promise 20: by the club that has borrowed", 2, () -> x.offer(1, 0, 0, 1, 1, 0, 0));
        for (int i = 3; i < 30; i++) {
            int number = i;
            Check.due("promise 20: offer " + i, number, () -> x.offer(1, 0, 0, 1, 1, 0, 0));
        }
        Check.refused("promise 20: the 31st", x, STATE, () -> x.offer(1, 0, 0, 1, 1, 0, 0));
        Check.refused("promise 20: what cannot be first", x, CANNOT, () -> x.offer(0, 0, 0, 1, 1, 0, 0));
    }

    private static void answer() {
        TransferHall x = hall(0);
        x.setRelease(0, 500);
        x.offer(1, 0, 499, 1, 1, 0, 0);
        x.offer(1, 0, 500, 1, 1, 0, 0);
        x.offer(1, 0, 501, 1, 1, 0, 0);
        x.offer(0, 1, 999, 1, 1, 0, 0);
        Check.due("promise 21: less than the release", 'n', () -> x.answer(0, false));
        Check.refused("promise 21: the release", x, STATE, () -> x.answer(1, false));
        Check.refused("promise 21: more than the release", x, STATE, () -> x.answer(2, false));
        Check.due("promise 21: accepted", 'a', () -> x.answer(1, true));
        Check.refused("promise 21: not open", x, CANNOT, () -> x.answer(1, false));
        Check.refused("promise 21: refused already", x, CANNOT, () -> x.answer(0, true));
        Check.due("promise 21: no release", 'n', () -> x.answer(3, false));
        x.setRelease(0, -1);
        Check.due("promise 21: taken off", 'n', () -> x.answer(2, false));
        x.setRelease(0, 0);
        x.offer(1, 0, 0, 1, 1, 0, 0);
        Check.refused("promise 21: a release of 0", x, STATE, () -> x.answer(4, false));
        Check.refused("promise 21: no such offer", x, INDEX, () -> x.answer(5, true));
        Check.refused("promise 21: offer -1", x, INDEX, () -> x.answer(-1, true));
        Check.refused("promise 24: no such offer", x, INDEX, () -> x.state(5));
        Check.refused("promise 24: offer -1", x, INDEX, () -> x.state(-1));
        x.offer(3, 2, 7, 1, 1, 0, 0);
        x.days(360);
        x.days(360);
        Check.due("promise 21: also if the contract is over", 'a', () -> x.answer(5, true));
    }

    private static void file() {
        TransferHall x = hall(10);
        x.setWindow(1, true, 0, 10);
        x.offer(1, 0, 2, 1, 1, 0, 0);
        x.offer(3, 0, 2, 1, 1, 0, 0);
        Check.refused("promise 22: open", x, CANNOT, () -> x.file(0));
        x.answer(0, true);
        x.answer(1, true);
        Check.due("promise 22: of one land", 'r', () -> x.file(0));
        Check.due("promise 22: of unlike lands", 'w', () -> x.file(1));
        Check.refused("promise 22: filed already", x, CANNOT, () -> x.file(0));
        x.offer(3, 0, 2, 1, 1, 0, 0);
        x.offer(3, 0, 2, 1, 1, 0, 0);
        x.answer(2, true);
        x.days(11);
        Check.refused("promise 22: no window in the land of the buyer", x, STATE, () -> x.file(2));
        Check.refused("promise 22: not accepted is first", x, CANNOT, () -> x.file(3));
        x.days(19);
        x.setWindow(1, true, 30, 30);
        Check.due("promise 22: the land of the seller is not asked", 'w', () -> x.file(2));
        Check.refused("promise 22: no such offer", x, INDEX, () -> x.file(4));
        Check.refused("promise 22: offer -1", x, INDEX, () -> x.file(-1));

        TransferHall y = hall(10);
        y.complete(filed(y, 1, 0, 20, 2, 0));
        int next = y.offer(1, 2, 1, 1, 1, 0, 0);
        y.answer(next, true);
        y.days(89);
        y.setWindow(0, true, 0, 359);
        Check.due("promise 37: not due", false, () -> y.isBanned(1));
        y.days(1);
        Check.due("promise 37: due and not paid", true, () -> y.isBanned(1));
        Check.refused("promise 22: the buyer is banned", y, STATE, () -> y.file(next));
        y.player(7560, 0);
        Check.refused("promise 11: the club is banned", y, STATE, () -> y.sign(3, 1, 1, 0));
    }

    private static void certify() {
        TransferHall x = hall(10);
        x.days(7);
        int given = filed(x, 3, 0, 1, 1, 0);
        int stopped = filed(x, 3, 0, 1, 1, 0);
        int late = filed(x, 3, 0, 1, 1, 0);
        int ready = filed(x, 1, 0, 1, 1, 0);
        Check.due("promise 23: given", 'r', () -> x.certify(given, true));
        Check.due("promise 23: stopped", 'x', () -> x.certify(stopped, false));
        Check.refused("promise 23: not twice", x, CANNOT, () -> x.certify(stopped, true));
        Check.refused("promise 23: does not wait", x, CANNOT, () -> x.certify(ready, true));
        x.days(14);
        Check.due("promise 24: waits 14 days", 'w', () -> x.state(late));
        x.days(1);
        Check.due("promise 24: ready 15 days behind filing", 'r', () -> x.state(late));
        Check.due("promise 24: stopped stays stopped", 'x', () -> x.state(stopped));
        Check.refused("promise 23: no such offer", x, INDEX, () -> x.certify(4, true));
        Check.refused("promise 23: offer -1", x, INDEX, () -> x.certify(-1, true));
    }

    private static void complete() {
        TransferHall x = hall(1000);
        x.setRelease(0, 5);
        x.days(5);
        int one = x.offer(1, 0, 1003, 4, 3, 7, 25);
        Check.refused("promise 25: open", x, CANNOT, () -> x.complete(one));
        x.answer(one, true);
        Check.refused("promise 25: accepted", x, CANNOT, () -> x.complete(one));
        x.file(one);
        int open = x.offer(2, 0, 1, 1, 1, 1, 1);
        int refused = x.offer(2, 0, 1, 1, 1, 1, 1);
        x.answer(refused, false);
        int accepted = x.offer(2, 0, 1, 1, 1, 1, 1);
        x.answer(accepted, true);
        int waiting = filed(x, 3, 0, 1, 1, 0);
        int ready = filed(x, 2, 0, 1, 1, 0);
        int another = filed(x, 2, 1, 1, 1, 0);
        Check.due("promise 25: the first part is what is left", 253L, () -> x.complete(one));
        Check.due("promise 24: completed", 'c', () -> x.state(one));
        Check.due("promise 25: the open one is stopped", 'x', () -> x.state(open));
        Check.due("promise 25: the refused one is not", 'n', () -> x.state(refused));
        Check.due("promise 25: the accepted one is stopped", 'x', () -> x.state(accepted));
        Check.due("promise 25: the waiting one is stopped", 'x', () -> x.state(waiting));
        Check.due("promise 25: the ready one is stopped", 'x', () -> x.state(ready));
        Check.due("promise 25: that for another player is not", 'r', () -> x.state(another));
        Check.due("promise 25: the cash", 747L, () -> x.cash(1));
        Check.due("promise 36: owes", 750L, () -> x.owes(1));
        Check.due("promise 25: the club", 1, () -> x.boundTo(0));
        Check.due("promise 25: registered", 1, () -> x.clubOf(0));
        Check.due("promise 25: until", 5 + 3 * 360, () -> x.contract(0, 'u'));
        Check.due("promise 25: wage", 7, () -> x.contract(0, 'w'));
        Check.due("promise 25: release", -1, () -> x.contract(0, 'r'));
        Check.due("promise 25: fee", 1003, () -> x.contract(0, 'f'));
        Check.due("promise 25: share", 25, () -> x.contract(0, 's'));
        Check.due("promise 25: the old stint ends today", 5, () -> x.stint(0, 0, 't'));
        Check.due("promise 25: the new one begins today", 5, () -> x.stint(0, 1, 'f'));
        Check.refused("promise 25: completed already", x, CANNOT, () -> x.complete(one));
        Check.refused("promise 25: no such offer", x, INDEX, () -> x.complete(7));
        Check.refused("promise 25: offer -1", x, INDEX, () -> x.complete(-1));
    }

    private static void completeRules() {
        TransferHall x = hall(1000);
        int dear = filed(x, 1, 0, 1001, 1, 0);
        int just = filed(x, 1, 0, 1000, 1, 0);
        Check.refused("promise 25: has not the cash", x, STATE, () -> x.complete(dear));
        x.lend(0, 2, 5, 0, 0);
        Check.refused("promise 25: on loan, what cannot be first", x, CANNOT, () -> x.complete(dear));
        x.recall(0);
        Check.due("promise 25: just the cash", 1000L, () -> x.complete(just));

        TransferHall y = hall(1000);
        int other = filed(y, 1, 0, 1, 1, 0);
        y.days(360);
        y.days(360);
        Check.refused("promise 25: the contract is over", y, CANNOT, () -> y.complete(other));
        y.sign(0, 0, 1, 0);
        Check.refused("promise 25: another contract now", y, CANNOT, () -> y.complete(other));

        TransferHall z = hall(1000);
        z.player(16 * 360, 0);
        z.sign(3, 0, 1, 0);
        int minor = filed(z, 3, 3, 1, 1, 0);
        z.certify(minor, true);
        Check.refused("promise 25: younger than 18 in another land", z, CANNOT, () -> z.complete(minor));
        int near = filed(z, 1, 3, 1, 1, 0);
        Check.due("promise 25: 16 years, in the own land", 1L, () -> z.complete(near));
        Check.due("promise 25: the first offer is stopped", 'x', () -> z.state(minor));

        TransferHall f = hall(1000);
        f.club(0, 1, 10);
        for (int i = 0; i < 2; i++) {
            f.days(1);
            f.complete(filed(f, 1 + i, 0, 1, 1, 0));
        }
        f.days(1);
        int tooMany = filed(f, 4, 0, 1, 1, 0);
        Check.refused("promise 25: a fourth club in the year", f, CANNOT, () -> f.complete(tooMany));
        int home = filed(f, 0, 0, 1, 1, 0);
        Check.due("promise 25: the first of the three again", 1L, () -> f.complete(home));
    }

    private static void parts() {
        TransferHall x = new TransferHall();
        x.club(0, 1, 0);
        x.club(0, 1, 0);
        x.club(1, 1, 1000000);
        x.player(15 * 360, 0);
        x.setWindow(1, false, 0, 359);
        x.enrol(0, 0);
        x.days(180);
        x.leave(0);
        x.enrol(0, 1);
        x.days(270);
        x.income(1, 200000);
        x.sign(0, 1, 5, 0);
        Check.due("promise 38: a year up to 15", 180 * 1000 / 360 + 0L, () -> x.trained(0, 400000, 0));
        Check.due("promise 38: and a later one", 500L + 2000 * 90 / 360, () -> x.trained(0, 400000, 1));
        Check.due("promise 11: the training money", 200000L - 180 * 90, () -> x.cash(1));
        x.days(270);
        x.days(360);
        x.days(180);
        Check.due("terms: 18 years", 18, () -> x.age(0));
        int one = filed(x, 2, 0, 799999, 2, 0);
        x.certify(one, true);
        Check.due("promise 25: the first part", 400000L, () -> x.complete(one));
        long mine = 500 + 2000 + 2000 + 2000 * 180 / 360;
        Check.due("promise 25: who trained is paid", 16200 + 500L, () -> x.cash(0));
        Check.due("promise 25: who sells is paid", 200000L - 16200 + mine + (400000 - 20000), () -> x.cash(1));
        Check.due("promise 25: the federation has what is left", 20000 - 500 - mine, () -> x.federation(0));
        Check.due("promise 25: that of the other land nothing", 0L, () -> x.federation(1));
        long fed = x.federation(0);
        x.days(90);
        long ninety = 1999 / 2;
        Check.due("terms: a later part reaches the days since", 600000 - 399999L + 1999 * 90 / 360, () -> x.cash(2));
        Check.due("terms: paid", 0L, () -> x.owes(2));
        Check.due("terms: cut for each year and club", 16700L + 999 * 180 / 360, () -> x.cash(0));
        long got = 999 * 180 / 360 + (999 * 180 / 360 + 1999 + 1999 + ninety) + 1999 * 90 / 360;
        Check.due("terms: the federation again", fed + 4 * 999 + 8 * 1999 - got, () -> x.federation(0));
        Check.due("terms: sound", true, x::isSound);
        Check.due("promise 38: part 1", 0L, () -> x.trained(0, 1, 0));
        Check.refused("promise 38: part 0", x, ARGUMENT, () -> x.trained(0, 0, 0));
        Check.refused("promise 38: part 10000000", x, ARGUMENT, () -> x.trained(0, 10000000, 0));
        Check.refused("promise 38: no such player, the index first", x, INDEX, () -> x.trained(1, 0, 0));
        Check.refused("promise 38: no such club, the index first", x, INDEX, () -> x.trained(0, 0, 3));
    }

    private static void laterShare() {
        TransferHall x = hall(10000);
        x.complete(filed(x, 1, 0, 0, 1, 33));
        Check.due("promise 15: the share", 33, () -> x.contract(0, 's'));
        x.complete(filed(x, 2, 0, 399, 1, 50));
        // 399: a year up to 15 gives 0, a later one 1, so 391 are left, and 33 hundredths of it are 129.
        Check.due("terms: the earlier seller", 10129L, () -> x.cash(0));
        Check.due("terms: the seller", 10000L + 391 - 129, () -> x.cash(1));
        x.complete(filed(x, 0, 0, 100, 1, 0));
        Check.due("terms: of this sale alone, to the one that sold it", 10000L + 391 - 129 + 50, () -> x.cash(1));
        Check.due("terms: the rest", 10000L - 399 + 50, () -> x.cash(2));
        x.complete(filed(x, 1, 0, 100, 1, 0));
        Check.due("terms: no share kept", 10129L - 100 + 100, () -> x.cash(0));
    }

    private static void debts() {
        TransferHall x = hall(100);
        x.complete(filed(x, 1, 0, 200, 2, 0));
        x.complete(filed(x, 1, 2, 0, 1, 0));
        x.complete(filed(x, 2, 1, 80, 4, 0));
        Check.due("promise 36: owes", 100L, () -> x.owes(1));
        Check.due("promise 36: three parts", 60L, () -> x.owes(2));
        Check.due("promise 36: nothing", 0L, () -> x.owes(0));
        x.income(1, 79);
        Check.due("terms: less by one, with the 20 of the sale", 99L, () -> x.cash(1));
        x.days(90);
        Check.due("terms: has not the cash", true, () -> x.isBanned(1));
        Check.due("promise 36: due and owed", 100L, () -> x.owes(1));
        Check.due("terms: the other debt came behind it, and is paid by itself", 40L, () -> x.owes(2));
        Check.due("terms: who can pay is not banned", false, () -> x.isBanned(2));
        Check.due("promise 34: with it", 119L, () -> x.cash(1));
        x.setWindow(0, true, 0, 359);
        Check.refused("promise 31: a banned club", x, STATE, () -> x.lend(1, 1, 1, 0, 0));
        x.days(1);
        Check.due("terms: paid on the first later day", 19L, () -> x.cash(1));
        Check.due("terms: no ban any more", false, () -> x.isBanned(1));
        x.days(89);
        Check.due("terms: 180 days", 20L, () -> x.owes(2));
        Check.due("promise 34: 20 were left", 100L - 3 * 20, () -> x.cash(2));
        x.days(89);
        Check.due("terms: 269 days", 20L, () -> x.owes(2));
        x.days(1);
        Check.due("terms: 270 days", 0L, () -> x.owes(2));
        Check.refused("promise 36: no such club", x, INDEX, () -> x.owes(4));
        Check.refused("promise 37: no such club", x, INDEX, () -> x.isBanned(4));
        Check.refused("promise 37: club -1", x, INDEX, () -> x.isBanned(-1));
    }

    private static void link() {
        TransferHall x = new TransferHall();
        x.club(0, 4, 100);
        x.club(0, 4, 100);
        for (int i = 0; i < 7; i++) {
            x.player(7200, 0);
            x.sign(i, 0, 1, 0);
        }
        int open = x.offer(1, 0, 1, 1, 1, 0, 0);
        Check.refused("promise 26: not ready", x, CANNOT, () -> x.link(open));
        for (int i = 0; i < 7; i++) {
            filed(x, 1, i, 1, 1, 0);
        }
        int twin = filed(x, 1, 3, 1, 1, 0);
        for (int i = 5; i > 1; i--) {
            int number = i;
            Check.due("promise 26: link " + i, 6 - i, () -> x.link(number));
        }
        Check.refused("promise 26: in it", x, CANNOT, () -> x.link(3));
        Check.refused("promise 26: another one for this player is", x, CANNOT, () -> x.link(twin));
        Check.due("promise 26: the fifth", 5, () -> x.link(7));
        Check.refused("promise 26: has 5", x, STATE, () -> x.link(6));
        Check.refused("promise 26: what cannot be first", x, CANNOT, () -> x.link(twin));
        Check.refused("promise 26: no such offer", x, INDEX, () -> x.link(9));
        Check.refused("promise 26: offer -1", x, INDEX, () -> x.link(-1));
        Check.due("promise 27: had 5", 5, x::cut);
        Check.due("promise 27: is empty", 0, x::cut);
        Check.due("promise 26: again", 1, () -> x.link(3));
    }

    private static void run() {
        TransferHall x = hall(100);
        Check.refused("promise 28: has none", x, CANNOT, x::run);
        filed(x, 1, 0, 150, 1, 0);
        filed(x, 2, 1, 180, 1, 0);
        filed(x, 0, 2, 90, 1, 0);
        filed(x, 0, 1, 5, 1, 0);
        x.link(0);
        Check.due("promise 29: no cash", false, x::canRun);
        Check.refused("promise 28: no cash", x, STATE, x::run);
        x.link(2);
        x.link(1);
        Check.due("promise 29: some order", true, x::canRun);
        Check.due("promise 28: the first", 2, x::run);
        Check.due("promise 28: the chain is empty", 0, x::cut);
        for (int i = 0; i < 3; i++) {
            int number = i;
            Check.due("promise 28: completed " + i, 'c', () -> x.state(number));
            Check.due("promise 28: moved " + i, (i + 1) % 3, () -> x.clubOf(number));
        }
        Check.due("promise 28: stops others", 'x', () -> x.state(3));

        TransferHall y = hall(100);
        filed(y, 1, 0, 100, 1, 0);
        filed(y, 1, 2, 100, 1, 0);
        filed(y, 2, 1, 100, 1, 0);
        for (int i = 0; i < 3; i++) {
            y.link(2 - i);
        }
        y.income(1, 10);
        Check.due("promise 28: 0 ahead of 1 and 2", 0, y::run);
        Check.due("promise 28: the cash", 2 * 100L, () -> y.cash(0));

        TransferHall t = hall(100);
        filed(t, 1, 0, 150, 1, 0);
        filed(t, 2, 1, 100, 1, 0);
        t.link(0);
        t.link(1);
        Check.due("promise 28: the second one pays for the first", 1, t::run);

        TransferHall z = hall(100);
        filed(z, 1, 0, 1, 1, 0);
        filed(z, 2, 1, 1, 1, 0);
        z.link(0);
        z.link(1);
        z.lend(1, 0, 5, 0, 0);
        Check.refused("promise 28: the rules do not allow one", z, CANNOT, z::run);
        Check.due("promise 29: nor then", false, z::canRun);
        Check.due("promise 25: the other one by itself", 1L, () -> z.complete(0));
        Check.due("promise 27: the chain keeps both", 2, z::cut);
    }

    private static void canRun() {
        TransferHall x = hall(100);
        Check.due("promise 29: without any", true, x::canRun);
        filed(x, 1, 0, 100, 1, 0);
        filed(x, 1, 2, 1, 1, 0);
        x.link(0);
        Check.due("promise 29: one", true, x::canRun);
        x.link(1);
        Check.due("promise 29: not for both", false, x::canRun);
        Check.refused("promise 28: not for both", x, STATE, x::run);
        x.income(1, 1);
        Check.due("promise 29: for both", true, x::canRun);
        Check.due("promise 51: sound", true, x::isSound);
    }

    private static void rule() {
        TransferHall x = hall(1000);
        x.days(5);
        int one = filed(x, 1, 0, 800, 2, 10);
        Check.refused("promise 30: ready", x, CANNOT, () -> x.rule(one));
        x.complete(one);
        x.days(60);
        Check.due("promise 36: owes", 400L, () -> x.owes(1));
        Check.due("promise 30: 60 days, no match", false, () -> x.rule(one));
        Check.due("promise 30: void", 'v', () -> x.state(one));
        Check.due("promise 30: no club", NOTHING, () -> x.clubOf(0));
        Check.due("promise 30: no contract", NOTHING, () -> x.boundTo(0));
        Check.due("promise 30: one stint", 1, () -> x.stints(0));
        Check.due("promise 30: up to the completion", 5, () -> x.stint(0, 0, 't'));
        for (int i = 0; i < 3; i++) {
            int club = i;
            Check.due("promise 30: the money of " + i, 1000L, () -> x.cash(club));
        }
        Check.due("promise 30: of the federation too", 0L, () -> x.federation(0));
        Check.due("promise 30: nothing is owed", 0L, () -> x.owes(1));
        Check.refused("promise 30: void already", x, CANNOT, () -> x.rule(one));
        x.days(100);
        Check.due("promise 30: no part is paid", 1000L, () -> x.cash(1));
        x.days(20);
        Check.due("promise 11: was free in the last window", 0L, () -> x.sign(0, 2, 1, 0));
        Check.refused("promise 30: no such offer", x, INDEX, () -> x.rule(1));
        Check.refused("promise 30: offer -1", x, INDEX, () -> x.rule(-1));

        TransferHall y = hall(1000);
        int late = filed(y, 1, 0, 800, 2, 10);
        y.complete(late);
        y.days(61);
        Check.refused("promise 30: 61 days", y, CANNOT, () -> y.rule(late));

        TransferHall z = hall(1000);
        int first = filed(z, 1, 0, 800, 2, 10);
        z.complete(first);
        int second = filed(z, 2, 0, 300, 1, 10);
        z.complete(second);
        Check.refused("promise 30: another contract since", z, CANNOT, () -> z.rule(first));
        z.lend(0, 0, 3, 0, 0);
        Check.refused("promise 30: on loan", z, CANNOT, () -> z.rule(second));
        z.recall(0);
        Check.refused("promise 30: had a loan since", z, CANNOT, () -> z.rule(second));

        TransferHall t = hall(1000);
        int earlier = filed(t, 1, 0, 800, 2, 10);
        t.complete(earlier);
        t.days(1);
        int later = filed(t, 2, 0, 300, 1, 10);
        t.complete(later);
        Check.due("promise 30: the later one", false, () -> t.rule(later));
        Check.due("promise 30: that never was", false, () -> t.rule(earlier));
        Check.due("promise 30: all cash is back", 1000L, () -> t.cash(0));
        Check.due("promise 30: sound", true, t::isSound);
    }

    private static void ruleReachesBack() {
        TransferHall x = hall(100);
        int one = filed(x, 1, 0, 60, 1, 0);
        x.complete(one);
        x.income(0, 1);
        x.match(1, 0);
        x.match(2, 1);
        x.match(1, 2);
        for (int i = 0; i < 3; i++) {
            x.appear(i, 1, 0);
        }
        Check.due("promise 46: entitled so far", false, () -> x.protest(0, 0));
        Check.due("promise 46: entitled so far", false, () -> x.protest(1, 2));
        x.sign(x.player(7560, 0), 0, 5, 99);
        x.days(2);
        Check.due("promise 34: less than it was paid", 101L + 60 - 198, () -> x.cash(0));
        Check.due("promise 30: loses two matches", true, () -> x.rule(one));
        Check.due("promise 30: cash or not", 101L - 198, () -> x.cash(0));
        Check.due("promise 47: the first", 1, () -> x.loser(0));
        Check.due("promise 47: the second", 1, () -> x.loser(1));
        Check.due("promise 47: no protest", NOTHING, () -> x.loser(2));
        Check.due("promise 46: protests in time", true, () -> x.protest(2, 2));
        Check.due("promise 47: the third", 1, () -> x.loser(2));
        Check.due("promise 41: two matches", 6, () -> x.points(2));
    }
}
