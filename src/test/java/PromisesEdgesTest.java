/** What the promises say beside the terms: what is empty, full, too large for a number, first, last, and refused. */
public final class PromisesEdgesTest {
    private static final Class<IllegalArgumentException> ARGUMENT = IllegalArgumentException.class;
    private static final Class<IllegalStateException> STATE = IllegalStateException.class;
    private static final Class<IndexOutOfBoundsException> INDEX = IndexOutOfBoundsException.class;
    private static final Class<UnsupportedOperationException> CANNOT = UnsupportedOperationException.class;
    private static final Class<ArithmeticException> ARITHMETIC = ArithmeticException.class;
    private static final Class<java.util.NoSuchElementException> NONE = java.util.NoSuchElementException.class;
    private static final int AGE_21 = 21 * 360;

    public static void main(String[] args) {
        emptyHall();
        fullHall();
        windowBefore();
        incomeAndDays();
        answersOfRegistrations();
        releases();
        orderOfRefusals();
        linkOfTheFirst();
        chainOfFive();
        firstOrder();
        refusedRun();
        recallRules();
        debtsOfNothing();
        ownMoney();
        yearsOfResults();
        points();
        squads();
        toldOnce();
        losers();
        printWrapsAround();
        largeShares();
        meanAges();
        Check.end("PromisesEdgesTest");
    }

    /** Clubs 0 to 5 of the land 0 with this cash, and a player of 21 years under contract at each. */
    private static TransferHall hall(int cash) {
        TransferHall x = new TransferHall();
        for (int i = 0; i < 6; i++) {
            x.club(0, 4, cash);
            x.player(AGE_21, 0);
            x.sign(i, i, 2, 0);
        }
        return x;
    }

    private static int filed(TransferHall x, int buyer, int player, int fee) {
        int number = x.offer(buyer, player, fee, 1, 1, 0, 0);
        x.answer(number, true);
        x.file(number);
        return number;
    }

    // ---- promise 1

    private static void emptyHall() {
        TransferHall x = new TransferHall();
        Check.refused("promise 1: without clubs", x, INDEX, () -> x.cash(0));
        Check.refused("promise 1: without players", x, INDEX, () -> x.age(0));
        Check.refused("promise 1: without offers", x, INDEX, () -> x.state(0));
        Check.refused("promise 1: without matches", x, INDEX, () -> x.loser(0));
        Check.refused("promise 1: a match without clubs", x, INDEX, () -> x.match(0, 0));
        Check.refused("promise 28: a chain without offers", x, CANNOT, x::run);
        Check.due("promise 29: a chain without offers", true, x::canRun);
        Check.due("promise 27: nothing to cut", 0, x::cut);
        Check.due("promise 51: an empty hall is sound", true, x::isSound);
        for (int i = 0; i < 4; i++) {
            int land = i;
            Check.due("promise 35: a federation at first", 0L, () -> x.federation(land));
        }
        Check.due("promise 8: days of an empty hall, over the end of a year", 400, () -> x.days(400));
        Check.due("promise 48: an empty hall", 7L * 31 * 31 * 31 * 31, x::print);
        x.club(0, 1, 0);
        Check.due("promise 42: nobody", 0, () -> x.squad(0));
        Check.due("promise 43: nobody", 0, () -> x.homegrown(0));
        Check.due("promise 33: no loan", 0, () -> x.loans(0, true) + x.loans(0, false));
        Check.due("promise 36: no debt", 0L, () -> x.owes(0));
        Check.due("promise 37: no ban", false, () -> x.isBanned(0));
        Check.due("promise 41: no points", 0, () -> x.points(0));
        Check.refused("promise 49: no income", x, ARITHMETIC, () -> x.wageShare(0));
        Check.refused("promise 50: nobody", x, ARITHMETIC, () -> x.meanAge(0));
        Check.refused("promise 40: founded behind the year", x, NONE, () -> x.result(0, 0));
        Check.refused("promise 40: the year goes on", x, NONE, () -> x.result(0, 1));
    }

    // ---- promises 5, 6, 20 and 44: as many as there can be, and one more

    private static void fullHall() {
        TransferHall x = new TransferHall();
        for (int i = 0; i < 10; i++) {
            int number = i;
            Check.due("promise 5: club " + i, number, () -> x.club(number % 4, 1 + number % 4, 9999999));
        }
        Check.refused("promise 5: there are 10", x, STATE, () -> x.club(0, 1, 0));
        Check.refused("promise 5: there are 10, and no such land", x, ARGUMENT, () -> x.club(4, 1, 0));
        for (int i = 0; i < 24; i++) {
            int number = i;
            Check.due("promise 6: player " + i, number, () -> x.player(14399, number % 4));
        }
        Check.refused("promise 6: there are 24", x, STATE, () -> x.player(0, 0));
        Check.refused("promise 6: there are 24, and the age is out of range", x, ARGUMENT, () -> x.player(14400, 0));
        x.sign(23, 9, 5, 9999);
        for (int i = 0; i < 30; i++) {
            int number = i;
            Check.due("promise 20: offer " + i, number, () -> x.offer(number % 9, 23, 1, 1, 1, 0, 0));
        }
        Check.refused("promise 20: there are 30", x, STATE, () -> x.offer(0, 23, 1, 1, 1, 0, 0));
        Check.refused("promise 20: there are 30, and no contract", x, CANNOT, () -> x.offer(0, 22, 1, 1, 1, 0, 0));
        Check.refused("promise 20: there are 30, and the fee is out of range", x, ARGUMENT, () -> x.offer(0, 22, -1, 1, 1, 0, 0));
        Check.due("promise 24: the last one", 'o', () -> x.state(29));
        for (int i = 0; i < 40; i++) {
            int number = i;
            Check.due("promise 44: match " + i, number, () -> x.match(9, number % 9));
        }
        Check.refused("promise 44: there are 40", x, STATE, () -> x.match(0, 1));
        Check.refused("promise 44: there are 40, and both are the same", x, ARGUMENT, () -> x.match(0, 0));
        Check.due("promise 45: in the last one", true, () -> x.appear(39, 9, 23));
        Check.due("promise 45: in the first one", true, () -> x.appear(0, 9, 23));
    }

    // ---- promises 2, 7 and 8

    private static void windowBefore() {
        TransferHall x = new TransferHall();
        for (int i = 0; i < 4; i++) {
            int land = i;
            Check.due("promise 2: the first one at first", 180, () -> x.setWindow(land, false, 359, 359));
            Check.due("promise 2: the second one at first", 0, () -> x.setWindow(land, true, 1, 1));
            Check.due("promise 2: set to the last day", 359, () -> x.setWindow(land, false, 0, 0));
            Check.due("promise 2: set to the first day", 0, () -> x.setWindow(land, false, 0, 359));
            Check.due("promise 2: the other one stays", 1, () -> x.setWindow(land, true, 2, 2));
        }
    }

    private static void incomeAndDays() {
        TransferHall x = new TransferHall();
        x.club(0, 1, 9999999);
        for (int i = 1; i <= 5; i++) {
            long due = 9999999L + i * 999999L;
            Check.due("promise 7: more than a club can have at first", due, () -> x.income(0, 999999));
        }
        Check.due("promise 8: the most", 400, () -> x.days(400));
        Check.due("promise 8: the least", 401, () -> x.days(1));
        Check.due("promise 40: all that came in", 5L * 999999, () -> x.result(0, 0));
    }

    // ---- promises 9 to 19

    private static void answersOfRegistrations() {
        TransferHall x = hall(0);
        x.player(12 * 360, 0);
        Check.due("promise 9: the age", 12, () -> x.enrol(6, 0));
        x.days(359);
        Check.due("promise 10: the days", 359, () -> x.leave(6));
        Check.refused("promise 10: none any more", x, CANNOT, () -> x.leave(6));
        x.days(1);
        Check.due("promise 9: a year older", 13, () -> x.enrol(6, 0));
        Check.due("promise 10: no day", 0, () -> x.leave(6));
        Check.due("promise 17: that was none", 1, () -> x.stints(6));
        Check.refused("promise 18: no second one", x, NONE, () -> x.stint(6, 1, 'c'));
        Check.refused("promise 18: the least index", x, NONE, () -> x.stint(6, Integer.MIN_VALUE, 'c'));
        Check.refused("promise 18: the largest index", x, NONE, () -> x.stint(6, Integer.MAX_VALUE, 't'));
        Check.refused("promise 18: no such thing, and no such stint", x, ARGUMENT, () -> x.stint(6, 1, 'C'));
        Check.refused("promise 15: no such thing, and no contract", x, ARGUMENT, () -> x.contract(6, 'U'));
        Check.refused("promise 15: no contract", x, NONE, () -> x.contract(6, 'u'));
        Check.due("promise 19: of no club", 0, () -> x.grown(6, 5));
        Check.due("promise 15: the day behind the last one", 720, () -> x.contract(5, 'u'));
    }

    private static void releases() {
        TransferHall x = hall(0);
        Check.due("promise 12: none at first", -1, () -> x.setRelease(0, -1));
        Check.due("promise 12: none by -1", -1, () -> x.setRelease(0, 0));
        x.offer(1, 0, 0, 1, 1, 0, 0);
        Check.refused("promise 21: a fee of 0 is a release of 0", x, STATE, () -> x.answer(0, false));
        Check.due("promise 12: 0 at last", 0, () -> x.setRelease(0, 1));
        Check.due("promise 21: less by one", 'n', () -> x.answer(0, false));
        x.setRelease(0, 99999999);
        x.offer(1, 0, 9999999, 1, 1, 0, 0);
        Check.due("promise 21: the largest fee is less than the largest release", 'n', () -> x.answer(1, false));
        x.setRelease(0, 9999999);
        x.offer(1, 0, 9999999, 1, 1, 0, 0);
        Check.refused("promise 21: the largest fee", x, STATE, () -> x.answer(2, false));
        Check.due("promise 21: it can be accepted", 'a', () -> x.answer(2, true));
        Check.refused("promise 21: not open comes ahead of the release", x, CANNOT, () -> x.answer(2, false));
    }

    // ---- exceptions: the one that is documented first

    private static void orderOfRefusals() {
        TransferHall x = hall(10);
        int dear = filed(x, 1, 0, 11);
        int open = x.offer(1, 2, 11, 1, 1, 0, 0);
        int late = x.offer(1, 3, 11, 1, 1, 0, 0);
        x.answer(late, true);
        x.setWindow(0, true, 0, 0);
        x.days(1);
        Check.refused("promise 22: not accepted, and no window", x, CANNOT, () -> x.file(open));
        Check.refused("promise 22: no window", x, STATE, () -> x.file(late));
        Check.refused("promise 25: not ready, and not the cash", x, CANNOT, () -> x.complete(open));
        Check.refused("promise 25: not the cash", x, STATE, () -> x.complete(dear));
        x.player(AGE_21 - 1, 0);
        Check.refused("promise 31: no contract, and 0 days", x, ARGUMENT, () -> x.lend(6, 1, 0, 0, 0));
        Check.refused("promise 31: no contract", x, CANNOT, () -> x.lend(6, 1, 1, 0, 0));
        Check.refused("promise 31: no window", x, CANNOT, () -> x.lend(0, 1, 1, 0, 0));
        Check.refused("promise 32: no loan, and no window", x, CANNOT, () -> x.recall(0));
        Check.refused("promise 12: no contract", x, CANNOT, () -> x.setRelease(6, 0));
        Check.refused("promise 12: no contract, and out of range", x, ARGUMENT, () -> x.setRelease(6, -2));
        Check.refused("promise 20: no contract", x, CANNOT, () -> x.offer(0, 6, 0, 1, 1, 0, 0));
        Check.refused("promise 20: one with this club", x, CANNOT, () -> x.offer(0, 0, 0, 1, 1, 0, 0));
        x.match(0, 1);
        x.appear(0, 0, 0);
        Check.refused("promise 45: told already, and none of its clubs", x, ARGUMENT, () -> x.appear(0, 2, 0));
        Check.refused("promise 45: told already", x, CANNOT, () -> x.appear(0, 1, 0));
        x.protest(0, 0);
        Check.refused("promise 46: has protested", x, CANNOT, () -> x.protest(0, 0));
        Check.refused("promise 46: none of its clubs", x, ARGUMENT, () -> x.protest(0, 5));
        x.days(3);
        Check.refused("promise 46: none of its clubs, and too late", x, ARGUMENT, () -> x.protest(0, 5));
    }

    // ---- promises 26 to 29

    private static void linkOfTheFirst() {
        TransferHall x = hall(100);
        int one = filed(x, 1, 0, 1);
        int twin = filed(x, 2, 0, 1);
        int other = filed(x, 2, 1, 1);
        Check.due("promise 26: the first", 1, () -> x.link(one));
        Check.refused("promise 26: it is in it", x, CANNOT, () -> x.link(one));
        Check.refused("promise 26: another one for this player", x, CANNOT, () -> x.link(twin));
        Check.due("promise 26: for another player", 2, () -> x.link(other));
        Check.refused("promise 26: the first is in it still", x, CANNOT, () -> x.link(one));
        Check.refused("promise 26: the second too", x, CANNOT, () -> x.link(other));
        Check.due("promise 27: two", 2, x::cut);
        Check.due("promise 24: they stay ready", 'r', () -> x.state(one));
        Check.due("promise 26: the other one for this player by now", 1, () -> x.link(twin));
        x.lend(0, 3, 1, 0, 0);
        Check.due("promise 29: the first, and alone, is not allowed", false, x::canRun);
        Check.refused("promise 28: the first, and alone, is not allowed", x, CANNOT, x::run);
        x.link(other);
        Check.due("promise 29: the first of two is not allowed", false, x::canRun);
        Check.refused("promise 28: the first of two is not allowed", x, CANNOT, x::run);
        x.recall(0);
        Check.due("promise 29: and is again", true, x::canRun);
        Check.due("promise 28: by numbers", twin, x::run);
    }

    /** Each club can buy only behind the sale of its own player, so that the last offer is the first one. */
    private static void chainOfFive() {
        TransferHall x = hall(100);
        for (int i = 0; i < 5; i++) {
            int number = filed(x, i + 1, i, 150);
            Check.due("promise 26: offer " + i, i + 1, () -> x.link(number));
        }
        int sixth = filed(x, 0, 5, 1);
        Check.refused("promise 26: it has 5", x, STATE, () -> x.link(sixth));
        Check.due("promise 29: the last club has not the cash", false, x::canRun);
        x.income(5, 49);
        Check.due("promise 29: nor less by one", false, x::canRun);
        Check.refused("promise 28: no order", x, STATE, x::run);
        x.income(5, 1);
        Check.due("promise 29: an order backwards", true, x::canRun);
        Check.due("promise 51: sound", true, x::isSound);
        Check.due("promise 28: the last one is the first", 4, x::run);
        for (int i = 0; i < 5; i++) {
            int number = i;
            Check.due("promise 28: all happen, offer " + i, 'c', () -> x.state(number));
            Check.due("promise 28: the player " + i, number + 1, () -> x.clubOf(number));
        }
        Check.due("promise 28: the cash of the first club", 250L, () -> x.cash(0));
        Check.due("promise 28: the cash of the last club", 0L, () -> x.cash(5));
        Check.due("promise 28: the chain is empty", 0, x::cut);
        Check.due("promise 26: the sixth one", 1, () -> x.link(sixth));
    }

    private static void firstOrder() {
        TransferHall x = hall(100);
        filed(x, 0, 2, 100);
        filed(x, 0, 1, 100);
        int back = filed(x, 1, 0, 200);
        x.link(0);
        x.link(1);
        x.link(back);
        Check.due("promise 29: not with the first one first, which can be done", true, x::canRun);
        Check.due("promise 28: the second one first", 1, x::run);
        // Of 200, eight years give 1 each to the federation.
        Check.due("promise 28: the first one last", 100L - 100 + 192 - 100, () -> x.cash(0));

        TransferHall y = hall(100);
        filed(y, 3, 4, 1);
        filed(y, 0, 1, 1);
        y.link(1);
        y.link(0);
        Check.due("promise 28: by numbers, not as they were linked", 0, y::run);
        Check.due("promise 28: and both", 'c', () -> y.state(1));
    }

    private static void refusedRun() {
        TransferHall x = hall(100);
        int cheap = filed(x, 1, 0, 1);
        int dear = filed(x, 2, 1, 101);
        x.link(cheap);
        x.link(dear);
        Check.refused("promise 28: all or none", x, STATE, x::run);
        Check.due("promise 24: the one that could be", 'r', () -> x.state(cheap));
        Check.refused("promise 26: the chain still has it", x, CANNOT, () -> x.link(cheap));
        Check.due("promise 27: it has both", 2, x::cut);
        x.link(cheap);
        x.complete(cheap);
        Check.due("promise 29: completed is not ready", false, x::canRun);
        Check.refused("promise 28: completed is not ready", x, CANNOT, x::run);
        Check.due("promise 27: the chain has it", 1, x::cut);
    }

    // ---- promises 31 and 32

    private static void recallRules() {
        TransferHall x = hall(100);
        x.lend(0, 1, 2, 40, 9999999);
        Check.refused("promise 31: on loan", x, CANNOT, () -> x.lend(0, 2, 1, 0, 0));
        Check.due("promise 32: no match", 0, () -> x.recall(0));
        Check.refused("promise 32: not twice", x, CANNOT, () -> x.recall(0));
        Check.due("promise 33: no loan", 0, () -> x.loans(0, true));
        Check.due("promise 31: again on that day", 1, () -> x.lend(0, 1, 1, 1, 0));
        x.days(1);
        Check.refused("promise 32: it has ended", x, CANNOT, () -> x.recall(0));
    }

    // ---- promises 36 to 39

    private static void debtsOfNothing() {
        TransferHall x = hall(0);
        int number = x.offer(1, 0, 0, 4, 1, 0, 0);
        x.answer(number, true);
        x.file(number);
        Check.due("promise 25: a fee of 0 in 4 parts", 0L, () -> x.complete(number));
        Check.due("promise 36: nothing is owed", 0L, () -> x.owes(1));
        x.days(270);
        Check.due("promise 37: nothing is due", false, () -> x.isBanned(1));
    }

    private static void ownMoney() {
        TransferHall x = new TransferHall();
        x.club(0, 1, 10);
        x.club(0, 1, 10);
        x.player(18 * 360, 0);
        x.enrol(0, 0);
        x.days(5);
        Check.due("promise 39: none to itself", 0L, () -> x.training(0, 0));
        Check.due("promise 11: none to itself", 0L, () -> x.sign(0, 0, 1, 0));
        Check.due("promise 34: as at first", 10L, () -> x.cash(0));
        Check.due("promise 39: not the first one any more", 0L, () -> x.training(0, 1));
        Check.due("promise 38: the largest part", 49999L * 5 / 360, () -> x.trained(0, 9999999, 0));
        Check.due("promise 38: the least part", 0L, () -> x.trained(0, 1, 0));
    }

    // ---- promises 40 and 41

    private static void yearsOfResults() {
        TransferHall x = new TransferHall();
        x.days(359);
        x.club(0, 1, 5);
        x.income(0, 9);
        Check.refused("promise 40: the year goes on", x, NONE, () -> x.result(0, 0));
        x.days(1);
        x.club(0, 1, 5);
        Check.due("promise 40: founded on the last day of it", 9L, () -> x.result(0, 0));
        Check.refused("promise 40: it ended on the day of the founding", x, NONE, () -> x.result(1, 0));
        Check.refused("promise 40: below 0", x, NONE, () -> x.result(0, -1));
        Check.refused("promise 40: the largest", x, NONE, () -> x.result(1, Integer.MAX_VALUE));
        Check.refused("promise 40: the least", x, NONE, () -> x.result(1, Integer.MIN_VALUE));
        for (int i = 0; i < 9; i++) {
            x.income(1, i + 1);
            x.days(360);
        }
        for (int i = 0; i < 9; i++) {
            int year = i + 1;
            Check.due("promise 40: year " + year, (long) year, () -> x.result(1, year));
            Check.due("promise 40: of the other club", 0L, () -> x.result(0, year));
        }
        Check.refused("promise 40: the tenth", x, NONE, () -> x.result(1, 10));
    }

    private static void points() {
        TransferHall x = hall(0);
        for (int i = 0; i < 40; i++) {
            x.match(i % 2, 1 - i % 2);
            x.appear(i, 0, 2);
            x.protest(i, 1);
        }
        Check.due("promise 41: all matches", 120, () -> x.points(1));
        Check.due("promise 41: no match", 0, () -> x.points(0));
        Check.due("promise 41: in none", 0, () -> x.points(2));
        x.sign(x.player(AGE_21, 0), 1, 5, 9);
        x.days(360);
        Check.due("promise 41: 3240 for wages, 6 points less", 114, () -> x.points(1));
    }

    // ---- promises 42 to 47

    private static void squads() {
        TransferHall x = new TransferHall();
        x.club(0, 4, 0);
        x.club(1, 4, 0);
        for (int i = 0; i < 24; i++) {
            x.player(i < 12 ? AGE_21 - 1 : AGE_21, 0);
            x.sign(i, 0, 5, 0);
        }
        Check.due("promise 42: all players", 24, () -> x.squad(0));
        Check.due("promise 43: those younger than 21", 12, () -> x.homegrown(0));
        x.days(1);
        Check.due("promise 43: a day later", 0, () -> x.homegrown(0));

        TransferHall y = new TransferHall();
        y.club(0, 4, 1000000);
        y.setWindow(0, false, 0, 359);
        y.player(15 * 360 - 1, 0);
        y.player(15 * 360, 0);
        y.enrol(0, 0);
        y.enrol(1, 0);
        for (int i = 0; i < 3; i++) {
            y.days(360);
        }
        y.leave(0);
        y.leave(1);
        for (int i = 0; i < 4; i++) {
            y.days(360);
        }
        y.sign(0, 0, 1, 0);
        Check.due("promise 19: the day ahead of 15 is left out", 1079, () -> y.grown(0, 0));
        Check.due("promise 43: so they are too few", 0, () -> y.homegrown(0));
        y.sign(1, 0, 1, 0);
        Check.due("promise 19: from the day of 15 on", 1080, () -> y.grown(1, 0));
        Check.due("promise 43: just as many", 1, () -> y.homegrown(0));
    }

    private static void toldOnce() {
        TransferHall x = hall(0);
        x.match(0, 1);
        x.match(1, 0);
        Check.due("promise 45: for the first club", true, () -> x.appear(0, 0, 0));
        Check.refused("promise 45: told for the first club", x, CANNOT, () -> x.appear(0, 0, 0));
        Check.refused("promise 45: told for the first club, and now for the other", x, CANNOT, () -> x.appear(0, 1, 0));
        Check.due("promise 45: as the guest of another match", true, () -> x.appear(1, 0, 0));
        for (int i = 1; i < 6; i++) {
            int player = i;
            Check.due("promise 45: player " + i, player == 1, () -> x.appear(0, 1, player));
        }
        x.days(1);
        Check.refused("promise 45: of yesterday", x, CANNOT, () -> x.appear(1, 0, 1));
    }

    private static void losers() {
        TransferHall x = hall(0);
        x.match(4, 5);
        x.match(5, 4);
        for (int i = 0; i < 2; i++) {
            int match = i;
            x.appear(i, 5, 0);
            Check.refused("promise 47: none has", x, NONE, () -> x.loser(match));
            Check.due("promise 46: the other one has lost then", true, () -> x.protest(match, 4));
            Check.due("promise 47: as guest and at home", 5, () -> x.loser(match));
            x.appear(i, 4, 1);
            Check.due("promise 46: both have", true, () -> x.protest(match, 5));
            Check.refused("promise 47: both have", x, NONE, () -> x.loser(match));
        }
        Check.due("promise 41: points for both", 6, () -> x.points(4));
        Check.due("promise 41: points for both", 6, () -> x.points(5));
        x.match(4, 5);
        Check.due("promise 46: nobody was in it", false, () -> x.protest(2, 4));
        Check.refused("promise 47: nobody was in it", x, NONE, () -> x.loser(2));
    }

    // ---- promises 48 to 50

    private static void printWrapsAround() {
        TransferHall x = new TransferHall();
        java.math.BigInteger print = java.math.BigInteger.valueOf(7);
        java.math.BigInteger times = java.math.BigInteger.valueOf(31);
        for (int i = 0; i < 10; i++) {
            x.club(i % 4, 1, 9999999 - i);
            print = print.multiply(times).add(java.math.BigInteger.valueOf(9999999 - i));
        }
        for (int i = 0; i < 24; i++) {
            x.player(AGE_21, 0);
            if (i % 3 > 0) {
                x.sign(i, i % 10, 1, 0);
            }
            print = print.multiply(times).add(java.math.BigInteger.valueOf(i % 3 > 0 ? i % 10 + 1 : 0));
        }
        for (int i = 0; i < 4; i++) {
            print = print.multiply(times);
        }
        long wrapped = print.longValue();
        Check.due("promise 48: wraps around", wrapped, x::print);

        TransferHall y = new TransferHall();
        y.club(0, 1, 0);
        y.player(AGE_21, 0);
        y.sign(0, 0, 1, 9999);
        y.days(1);
        Check.due("promise 48: less than nothing", ((7L * 31 - 9999) * 31 + 1) * 31 * 31 * 31 * 31, y::print);
    }

    private static void largeShares() {
        TransferHall x = new TransferHall();
        x.club(0, 1, 0);
        for (int i = 0; i < 24; i++) {
            x.player(AGE_21, 0);
            x.sign(i, 0, 5, 9999);
        }
        x.income(0, 1);
        x.days(359);
        long wages = 24L * 9999 * 359;
        Check.due("promise 49: more than a float holds", (float) wages, () -> x.wageShare(0));
        for (int i = 0; i < 17; i++) {
            x.income(0, 999998);
        }
        Check.due("promise 49: both converted", (float) wages / (float) (17L * 999998 + 1), () -> x.wageShare(0));
        Check.due("promise 34: the wages of all", 17L * 999998 + 1 - wages, () -> x.cash(0));
        x.days(1);
        Check.refused("promise 49: nothing came in this year", x, ARITHMETIC, () -> x.wageShare(0));
    }

    private static void meanAges() {
        TransferHall x = new TransferHall();
        x.club(0, 1, 0);
        x.player(12 * 360 + 359, 0);
        x.enrol(0, 0);
        Check.due("promise 50: one, cut", 12.0, () -> x.meanAge(0));
        x.player(14399, 0);
        x.sign(1, 0, 1, 0);
        Check.due("promise 50: two", 51.0 / 2, () -> x.meanAge(0));
        x.player(13 * 360, 0);
        x.enrol(2, 0);
        Check.due("promise 50: three", 64.0 / 3, () -> x.meanAge(0));
        x.days(1);
        Check.due("promise 50: two birthdays", 66.0 / 3, () -> x.meanAge(0));
        x.leave(0);
        x.leave(2);
        Check.due("promise 50: who is left", 40.0, () -> x.meanAge(0));
        x.days(359);
        Check.refused("promise 50: none is left", x, ARITHMETIC, () -> x.meanAge(0));
    }
}
