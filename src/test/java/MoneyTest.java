/** Promises 34 to 41: cash, federations, results of years, points. Debts and parts stand in OffersTest. */
public final class MoneyTest {
    private static final Class<IllegalArgumentException> ARGUMENT = IllegalArgumentException.class;
    private static final Class<IndexOutOfBoundsException> INDEX = IndexOutOfBoundsException.class;
    private static final Class<java.util.NoSuchElementException> NONE = java.util.NoSuchElementException.class;

    public static void main(String[] args) {
        cash();
        trained();
        results();
        resultOfFees();
        lostPoints();
        Check.end("MoneyTest");
    }

    private static void cash() {
        TransferHall x = new TransferHall();
        x.club(2, 1, 500);
        Check.due("promise 34: at first", 500L, () -> x.cash(0));
        Check.refused("promise 34: no such club", x, INDEX, () -> x.cash(1));
        Check.refused("promise 34: club -1", x, INDEX, () -> x.cash(-1));
        Check.due("promise 35: at first", 0L, () -> x.federation(3));
        Check.refused("promise 35: land 4", x, ARGUMENT, () -> x.federation(4));
        Check.refused("promise 35: land -1", x, ARGUMENT, () -> x.federation(-1));
        x.club(2, 1, 2000);
        x.player(9000, 3);
        x.sign(0, 0, 1, 0);
        int one = x.offer(1, 0, 2000, 1, 1, 0, 0);
        x.answer(one, true);
        x.file(one);
        x.complete(one);
        Check.due("promise 35: of the land of the player, for all 12 years", 4L * 5 + 8 * 10, () -> x.federation(3));
        Check.due("promise 35: not of the land of the clubs", 0L, () -> x.federation(2));
        Check.due("promise 34: the rest", 500L + 1900, () -> x.cash(0));
    }

    private static void trained() {
        TransferHall x = new TransferHall();
        x.club(0, 1, 100);
        x.club(0, 1, 100);
        x.player(12 * 360, 0);
        x.player(23 * 360, 0);
        x.sign(1, 1, 5, 0);
        x.enrol(0, 0);
        x.days(360);
        Check.due("promise 38: the year of 12", 24999L, () -> x.trained(0, 9999999, 0));
        Check.due("promise 38: the year of 23", 49999L, () -> x.trained(1, 9999999, 1));
        x.days(1);
        Check.due("promise 38: the year of 13 begins", 24999L + 24999 / 360, () -> x.trained(0, 9999999, 0));
        Check.due("promise 38: the year of 24 does not count", 49999L, () -> x.trained(1, 9999999, 1));
        int one = x.offer(0, 1, 800, 2, 1, 0, 0);
        x.answer(one, true);
        x.setWindow(0, true, 0, 359);
        x.file(one);
        x.income(0, 300);
        x.complete(one);
        Check.due("promise 34: nothing left", 0L, () -> x.cash(0));
        x.income(0, 399);
        x.days(90);
        Check.due("promise 37: less by one", true, () -> x.isBanned(0));
        x.income(0, 1);
        Check.due("promise 37: on a later day alone", true, () -> x.isBanned(0));
        x.days(1);
        Check.due("promise 37: just the cash", false, () -> x.isBanned(0));
        Check.due("promise 34: nothing left again", 0L, () -> x.cash(0));
    }

    private static void results() {
        TransferHall x = new TransferHall();
        x.club(0, 1, 100);
        x.player(7560, 0);
        x.sign(0, 0, 5, 2);
        x.income(0, 700);
        x.days(359);
        Check.refused("promise 40: has not ended", x, NONE, () -> x.result(0, 0));
        Check.due("promise 49: wages by income", (float) 718 / (float) 700, () -> x.wageShare(0));
        x.club(0, 1, 7);
        x.days(1);
        Check.due("promise 40: income less wages", 700L - 720, () -> x.result(0, 0));
        Check.due("promise 40: founded in it", 0L, () -> x.result(1, 0));
        x.club(0, 1, 7);
        x.days(360);
        Check.due("promise 40: the next year", -720L, () -> x.result(0, 1));
        Check.due("promise 40: the first one stays", -20L, () -> x.result(0, 0));
        Check.refused("promise 40: ended ahead of the founding", x, NONE, () -> x.result(2, 0));
        Check.due("promise 40: founded on its first day", 0L, () -> x.result(2, 1));
        Check.refused("promise 40: year -1", x, NONE, () -> x.result(0, -1));
        Check.refused("promise 40: the least year", x, NONE, () -> x.result(2, Integer.MIN_VALUE));
        Check.refused("promise 40: the largest year", x, NONE, () -> x.result(0, Integer.MAX_VALUE));
        Check.refused("promise 40: no such club, the index first", x, INDEX, () -> x.result(3, -1));
        Check.refused("promise 40: club -1", x, INDEX, () -> x.result(-1, 0));
        x.days(400);
        x.income(0, 33);
        for (int i = 0; i < 10; i++) {
            x.days(360);
        }
        Check.due("promise 40: years behind the contract", 0L, () -> x.result(0, 12));
        Check.due("promise 40: and with income", 33L - 720, () -> x.result(0, 3));
    }

    private static void resultOfFees() {
        TransferHall x = new TransferHall();
        for (int i = 0; i < 2; i++) {
            x.club(0, 4, 100000);
        }
        for (int i = 0; i < 3; i++) {
            x.player(7560, 0);
            x.sign(i, 0, 5, 0);
            int one = x.offer(1, i, 1000 + i, 2, 3 - i, 0, 0);
            x.answer(one, true);
            x.file(one);
            x.complete(one);
        }
        x.days(10);
        x.lend(0, 0, 360, 0, 0);
        x.days(350);
        Check.due("promise 40: the fees by years, lent or not, not those of contracts that are over", -(1000 / 3 + 1001 / 2) + 0L, () -> x.result(1, 0));
        Check.due("promise 40: none for who sold", 0L, () -> x.result(0, 0));
        int again = x.offer(0, 1, 9999, 1, 2, 0, 0);
        x.answer(again, true);
        x.file(again);
        x.complete(again);
        x.days(360);
        Check.due("promise 40: one contract went on", -333L, () -> x.result(1, 1));
        Check.due("promise 40: the other one is here now", -(9999 / 2) + 0L, () -> x.result(0, 1));
        Check.due("promise 41: less than -3000", -6, () -> x.points(0));

        TransferHall y = new TransferHall();
        y.club(0, 4, 1000);
        y.club(0, 4, 1000);
        y.player(7560, 0);
        y.sign(0, 0, 2, 0);
        y.lend(0, 1, 360, 1, 900);
        y.match(0, 1);
        y.appear(0, 1, 0);
        y.days(360);
        Check.due("promise 40: bought on the day on which the year ends", -900L, () -> y.result(1, 0));
    }

    private static void lostPoints() {
        TransferHall x = new TransferHall();
        x.club(0, 1, 0);
        x.club(0, 1, 0);
        x.player(7560, 0);
        x.player(7560, 0);
        x.days(1);
        x.sign(0, 0, 5, 10);
        x.income(0, 590);
        x.days(359);
        Check.due("promise 40: the sum is just -3000", -3000L, () -> x.result(0, 0));
        Check.due("promise 41: not less", 0, () -> x.points(0));
        x.income(0, 3599);
        x.days(360);
        Check.due("promise 41: two years, -3001", -6, () -> x.points(0));
        x.income(0, 3600);
        x.days(360);
        Check.due("promise 41: three years, -3001 again", -12, () -> x.points(0));
        x.income(0, 3600);
        x.days(360);
        Check.due("promise 41: the first year does not count any more", -12, () -> x.points(0));
        Check.due("promise 41: another club", 0, () -> x.points(1));
        Check.refused("promise 41: no such club", x, INDEX, () -> x.points(2));
        Check.refused("promise 41: club -1", x, INDEX, () -> x.points(-1));
    }
}
