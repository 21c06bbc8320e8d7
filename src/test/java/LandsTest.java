/** Promises 1 to 8: the new object, windows, clubs, players, income and days. */
public final class LandsTest {
    private static final Class<IllegalArgumentException> ARGUMENT = IllegalArgumentException.class;
    private static final Class<IllegalStateException> STATE = IllegalStateException.class;
    private static final Class<IndexOutOfBoundsException> INDEX = IndexOutOfBoundsException.class;

    public static void main(String[] args) {
        newHall();
        windows();
        clubs();
        players();
        income();
        days();
        Check.end("LandsTest");
    }

    private static void newHall() {
        TransferHall x = new TransferHall();
        Check.due("promise 1: no club", "throws IndexOutOfBoundsException", () -> x.cash(0));
        Check.due("promise 1: no player", "throws IndexOutOfBoundsException", () -> x.age(0));
        Check.due("promise 1: print", 7L * 31 * 31 * 31 * 31, x::print);
        Check.due("promise 1: sound", true, x::isSound);
        Check.due("promise 1: from the day 0 on", 1, () -> x.days(1));
    }

    private static void windows() {
        TransferHall x = new TransferHall();
        for (int i = 0; i < 4; i++) {
            int land = i;
            Check.due("promise 3: day 0", true, () -> x.isOpen(land));
            Check.due("promise 4: day 0", 0, () -> x.opensIn(land));
        }
        x.days(29);
        Check.due("promise 3: the last day is included", true, () -> x.isOpen(0));
        x.days(1);
        Check.due("promise 3: day 30", false, () -> x.isOpen(0));
        Check.due("promise 4: day 30", 150, () -> x.opensIn(0));
        x.days(149);
        Check.due("promise 3: day 179", false, () -> x.isOpen(0));
        Check.due("promise 4: day 179", 1, () -> x.opensIn(0));
        x.days(1);
        Check.due("promise 3: day 180", true, () -> x.isOpen(0));
        x.days(59);
        Check.due("promise 3: day 239", true, () -> x.isOpen(0));
        x.days(1);
        Check.due("promise 3: day 240", false, () -> x.isOpen(0));
        Check.due("promise 4: day 240, over the end of the year", 120, () -> x.opensIn(0));
        Check.due("promise 2: the first one before", 180, () -> x.setWindow(1, false, 240, 240));
        Check.due("promise 2: again", 240, () -> x.setWindow(1, false, 5, 359));
        Check.due("promise 2: the second one before", 0, () -> x.setWindow(1, true, 7, 7));
        Check.due("promise 2: the second one again", 7, () -> x.setWindow(1, true, 359, 359));
        Check.due("promise 2: its land is open", true, () -> x.isOpen(1));
        Check.due("promise 2: no other land is", false, () -> x.isOpen(0));
        x.setWindow(2, true, 0, 0);
        x.setWindow(2, false, 239, 239);
        Check.due("promise 4: a window of one day", 120, () -> x.opensIn(2));
        Check.refused("promise 2: land -1", x, ARGUMENT, () -> x.setWindow(-1, true, 0, 1));
        Check.refused("promise 2: land 4", x, ARGUMENT, () -> x.setWindow(4, true, 0, 1));
        Check.refused("promise 2: from -1", x, ARGUMENT, () -> x.setWindow(0, true, -1, 1));
        Check.refused("promise 2: from 360", x, ARGUMENT, () -> x.setWindow(0, true, 360, 360));
        Check.refused("promise 2: from 360, to 359", x, ARGUMENT, () -> x.setWindow(0, true, 360, 359));
        Check.refused("promise 2: to 360", x, ARGUMENT, () -> x.setWindow(0, false, 359, 360));
        Check.refused("promise 2: to ahead of from", x, ARGUMENT, () -> x.setWindow(0, false, 9, 8));
        Check.refused("promise 3: land 4", x, ARGUMENT, () -> x.isOpen(4));
        Check.refused("promise 3: land -1", x, ARGUMENT, () -> x.isOpen(-1));
        Check.refused("promise 4: land 4", x, ARGUMENT, () -> x.opensIn(4));
        Check.refused("promise 4: land -1", x, ARGUMENT, () -> x.opensIn(-1));
    }

    private static void clubs() {
        TransferHall x = new TransferHall();
        Check.due("promise 5: the first", 0, () -> x.club(0, 1, 0));
        Check.due("promise 5: the second", 1, () -> x.club(3, 4, 9999999));
        Check.due("promise 5: its cash", 9999999L, () -> x.cash(1));
        Check.refused("promise 5: land", x, ARGUMENT, () -> x.club(4, 1, 0));
        Check.refused("promise 5: land -1", x, ARGUMENT, () -> x.club(-1, 1, 0));
        Check.refused("promise 5: category 0", x, ARGUMENT, () -> x.club(0, 0, 0));
        Check.refused("promise 5: category 5", x, ARGUMENT, () -> x.club(0, 5, 0));
        Check.refused("promise 5: cash -1", x, ARGUMENT, () -> x.club(0, 1, -1));
        Check.refused("promise 5: cash 10000000", x, ARGUMENT, () -> x.club(0, 1, 10000000));
        for (int i = 2; i < 10; i++) {
            int number = i;
            Check.due("promise 5: club " + i, number, () -> x.club(0, 2, 1));
        }
        Check.refused("promise 5: the eleventh", x, STATE, () -> x.club(0, 1, 0));
        Check.refused("promise 5: the argument first", x, ARGUMENT, () -> x.club(0, 0, 0));
    }

    private static void players() {
        TransferHall x = new TransferHall();
        x.days(10);
        Check.due("promise 6: the first", 0, () -> x.player(0, 0));
        Check.due("promise 6: the second", 1, () -> x.player(14399, 3));
        Check.due("promise 6: born today", 0, () -> x.age(0));
        Check.due("promise 6: 39", 39, () -> x.age(1));
        Check.refused("promise 6: age -1", x, ARGUMENT, () -> x.player(-1, 0));
        Check.refused("promise 6: age 14400", x, ARGUMENT, () -> x.player(14400, 0));
        Check.refused("promise 6: land 4", x, ARGUMENT, () -> x.player(0, 4));
        Check.refused("promise 6: land -1", x, ARGUMENT, () -> x.player(0, -1));
        for (int i = 2; i < 24; i++) {
            int number = i;
            Check.due("promise 6: player " + i, number, () -> x.player(5000, 1));
        }
        Check.refused("promise 6: the 25th", x, STATE, () -> x.player(5000, 1));
        Check.refused("promise 6: the argument first", x, ARGUMENT, () -> x.player(5000, 4));
    }

    private static void income() {
        TransferHall x = new TransferHall();
        x.club(0, 1, 5);
        Check.due("promise 7: the least", 6L, () -> x.income(0, 1));
        Check.due("promise 7: the most", 1000005L, () -> x.income(0, 999999));
        Check.due("promise 7: is cash", 1000005L, () -> x.cash(0));
        Check.refused("promise 7: no such club", x, INDEX, () -> x.income(1, 1));
        Check.refused("promise 7: club -1, the index first", x, INDEX, () -> x.income(-1, 0));
        Check.refused("promise 7: 0", x, ARGUMENT, () -> x.income(0, 0));
        Check.refused("promise 7: 1000000", x, ARGUMENT, () -> x.income(0, 1000000));
    }

    private static void days() {
        TransferHall x = new TransferHall();
        x.club(0, 1, 10);
        x.player(7560, 0);
        x.sign(0, 0, 1, 7);
        Check.due("promise 8: one", 1, () -> x.days(1));
        Check.due("promise 8: the wage of the day", 3L, () -> x.cash(0));
        Check.due("promise 8: two", 3, () -> x.days(2));
        Check.due("promise 8: cash or not", -11L, () -> x.cash(0));
        Check.due("promise 8: to the end of the contract", 360, () -> x.days(357));
        Check.due("promise 8: wages of 360 days", 10L - 360 * 7, () -> x.cash(0));
        Check.due("promise 8: the contract is over", "throws NoSuchElementException", () -> x.boundTo(0));
        Check.due("promise 8: no wage behind it", 10L - 360 * 7, () -> { x.days(400); return x.cash(0); });
        Check.refused("promise 8: 0", x, ARGUMENT, () -> x.days(0));
        Check.refused("promise 8: 401", x, ARGUMENT, () -> x.days(401));
        Check.refused("promise 8: -1", x, ARGUMENT, () -> x.days(-1));
        Check.due("promise 8: no day went by", 761, () -> x.days(1));
    }
}
