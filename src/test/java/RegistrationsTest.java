/** Promises 9 to 19: youths, contracts and stints. */
public final class RegistrationsTest {
    private static final Class<IllegalArgumentException> ARGUMENT = IllegalArgumentException.class;
    private static final Class<IllegalStateException> STATE = IllegalStateException.class;
    private static final Class<IndexOutOfBoundsException> INDEX = IndexOutOfBoundsException.class;
    private static final Class<UnsupportedOperationException> CANNOT = UnsupportedOperationException.class;
    private static final String NOTHING = "throws NoSuchElementException";

    public static void main(String[] args) {
        enrol();
        leave();
        threeClubs();
        sign();
        signTimes();
        trainingMoney();
        release();
        contracts();
        stints();
        grown();
        Check.end("RegistrationsTest");
    }

    /** Four clubs of the land 0 and one of the land 1, each with the cash. */
    private static TransferHall hall(int cash) {
        TransferHall x = new TransferHall();
        for (int i = 0; i < 4; i++) {
            x.club(0, i + 1, cash);
        }
        x.club(1, 1, cash);
        return x;
    }

    private static void enrol() {
        TransferHall x = hall(0);
        x.player(12 * 360 - 1, 0);
        x.player(12 * 360, 0);
        x.player(21 * 360 - 1, 0);
        x.player(21 * 360, 0);
        x.player(18 * 360 - 1, 0);
        x.player(18 * 360, 0);
        Check.refused("promise 9: 11 years", x, CANNOT, () -> x.enrol(0, 0));
        Check.due("promise 9: 12 years", 12, () -> x.enrol(1, 0));
        Check.due("promise 9: 20 years", 20, () -> x.enrol(2, 0));
        Check.refused("promise 9: 21 years", x, CANNOT, () -> x.enrol(3, 0));
        Check.refused("promise 9: younger than 18 in another land", x, CANNOT, () -> x.enrol(4, 4));
        Check.due("promise 9: younger than 18 in the own land", 17, () -> x.enrol(4, 3));
        Check.due("promise 9: 18 in another land", 18, () -> x.enrol(5, 4));
        Check.refused("promise 9: is registered", x, CANNOT, () -> x.enrol(1, 0));
        Check.refused("promise 9: no such player", x, INDEX, () -> x.enrol(6, 0));
        Check.refused("promise 9: player -1", x, INDEX, () -> x.enrol(-1, 0));
        Check.refused("promise 9: no such club, the index first", x, INDEX, () -> x.enrol(0, 5));
        Check.refused("promise 9: club -1", x, INDEX, () -> x.enrol(0, -1));
        x.days(100);
        Check.due("promise 9: no window is asked for", 12, () -> x.enrol(0, 0));
    }

    private static void leave() {
        TransferHall x = hall(0);
        x.player(5000, 0);
        x.player(7000, 0);
        Check.refused("promise 10: none", x, CANNOT, () -> x.leave(0));
        x.enrol(0, 0);
        Check.due("promise 10: on the same day", 0, () -> x.leave(0));
        Check.due("promise 10: that is no stint", 0, () -> x.stints(0));
        x.enrol(0, 0);
        x.days(9);
        Check.due("promise 10: nine days", 9, () -> x.leave(0));
        Check.due("promise 10: is nowhere", NOTHING, () -> x.clubOf(0));
        Check.due("promise 10: that is one", 1, () -> x.stints(0));
        x.sign(1, 0, 1, 0);
        Check.refused("promise 10: by a contract", x, CANNOT, () -> x.leave(1));
        x.lend(1, 1, 5, 0, 0);
        Check.refused("promise 10: on loan", x, CANNOT, () -> x.leave(1));
        Check.refused("promise 10: no such player", x, INDEX, () -> x.leave(2));
        Check.refused("promise 10: player -1", x, INDEX, () -> x.leave(-1));
    }

    private static void threeClubs() {
        TransferHall x = hall(0);
        x.player(5000, 0);
        for (int i = 0; i < 3; i++) {
            x.enrol(0, i);
            x.days(10);
            x.leave(0);
        }
        Check.refused("terms: a fourth club in a year", x, CANNOT, () -> x.enrol(0, 3));
        Check.due("terms: one of the three", 13, () -> x.enrol(0, 1));
        x.days(330);
        Check.due("terms: a stint that ends on the first day of the year is not of it", 360, () -> x.leave(0) + 30);
        for (int i = 0; i < 3; i++) {
            x.enrol(0, new int[] {0, 2, 3}[i]);
            x.days(1);
            x.leave(0);
        }
        Check.refused("terms: now a fourth", x, CANNOT, () -> x.enrol(0, 1));

        TransferHall z = hall(1000000);
        z.player(6000, 0);
        for (int i = 0; i < 2; i++) {
            z.enrol(0, i);
            z.days(1);
            z.leave(0);
        }
        z.enrol(0, 2);
        Check.refused("terms: the present stint is of this year too", z, CANNOT, () -> z.sign(0, 3, 1, 0));
        z.leave(0);
        Check.due("terms: it is none once it has ended", 20L, () -> z.sign(0, 3, 1, 0));

        TransferHall y = hall(0);
        y.player(5000, 0);
        for (int i = 0; i < 4; i++) {
            int club = i;
            Check.due("terms: ended on the day it began", 13, () -> y.enrol(0, club));
            y.leave(0);
        }
    }

    private static void sign() {
        TransferHall x = hall(100);
        x.player(16 * 360 - 1, 0);
        x.player(16 * 360, 0);
        x.player(18 * 360, 0);
        Check.refused("promise 11: 15 years", x, CANNOT, () -> x.sign(0, 0, 1, 0));
        Check.refused("promise 11: younger than 18 in another land", x, CANNOT, () -> x.sign(1, 4, 1, 0));
        Check.due("promise 11: 16 years", 0L, () -> x.sign(1, 0, 1, 0));
        Check.refused("promise 11: has a contract", x, CANNOT, () -> x.sign(1, 0, 1, 0));
        Check.refused("promise 11: 0 years", x, ARGUMENT, () -> x.sign(2, 0, 0, 0));
        Check.refused("promise 11: 6 years", x, ARGUMENT, () -> x.sign(2, 0, 6, 0));
        Check.refused("promise 11: wage -1", x, ARGUMENT, () -> x.sign(2, 0, 1, -1));
        Check.refused("promise 11: wage 10000, the argument first", x, ARGUMENT, () -> x.sign(0, 0, 1, 10000));
        Check.refused("promise 11: no such player", x, INDEX, () -> x.sign(3, 0, 1, 0));
        Check.refused("promise 11: no such club, the index first", x, INDEX, () -> x.sign(0, 5, 0, 0));
        Check.due("promise 11: 18 in another land", 0L, () -> x.sign(2, 4, 5, 9999));
        Check.due("promise 11: five years", 1800, () -> x.contract(2, 'u'));
        x.days(200);
        x.lend(1, 1, 10, 0, 0);
        Check.refused("promise 11: in the midst of a loan", x, CANNOT, () -> x.sign(1, 2, 1, 0));
        x.player(16 * 360, 0);
        x.enrol(3, 0);
        x.days(1);
        x.sign(3, 1, 1, 0);
        Check.due("promise 11: that ends the youth", 1, () -> x.clubOf(3));
        Check.due("promise 11: its last day", 201, () -> x.stint(3, 0, 't'));
    }

    private static void signTimes() {
        TransferHall x = hall(0);
        x.player(7560, 0);
        x.player(7560, 0);
        x.sign(0, 0, 1, 0);
        x.days(30);
        Check.due("promise 11: free in the last window", 0L, () -> x.sign(1, 0, 1, 0));
        x.days(330);
        Check.due("promise 11: a window is open", true, () -> x.isOpen(0));
        x.days(30);
        Check.due("promise 11: the second contract ends in no window", NOTHING, () -> x.boundTo(1));
        x.player(7560, 0);
        Check.refused("promise 11: had a contract on the last day of one", x, CANNOT, () -> x.sign(1, 0, 1, 0));
        Check.due("promise 11: the first one was free on day 389", 0L, () -> x.sign(0, 0, 1, 0));
        Check.due("promise 11: told of just now", 0L, () -> x.sign(2, 0, 1, 0));
        x.setWindow(0, true, 0, 28);
        Check.refused("promise 11: and on the day 388", x, CANNOT, () -> x.sign(1, 0, 1, 0));
        Check.due("promise 11: in another land it was so too", "throws UnsupportedOperationException", () -> x.sign(1, 4, 1, 0));
        x.days(1);
        x.setWindow(0, true, 30, 30);
        Check.due("promise 11: by the windows as they are now", 0L, () -> x.sign(1, 0, 1, 0));

        TransferHall z = hall(1000);
        z.player(7560, 0);
        z.sign(0, 0, 1, 0);
        z.days(5);
        int sold = z.offer(1, 0, 1, 1, 1, 0, 0);
        z.answer(sold, true);
        z.file(sold);
        z.complete(sold);
        z.days(1);
        z.rule(sold);
        z.setWindow(0, true, 0, 0);
        z.setWindow(0, false, 7, 7);
        Check.refused("promise 11: on the first day of a contract too, and a window of tomorrow does not count", z, CANNOT, () -> z.sign(0, 2, 1, 0));
        z.setWindow(0, true, 4, 4);
        Check.refused("promise 11: on the last day of it", z, CANNOT, () -> z.sign(0, 2, 1, 0));
        z.setWindow(0, true, 5, 5);
        Check.due("promise 11: not on the day on which it ended, nor by what a ruling took", 0L, () -> z.sign(0, 2, 1, 0));

        TransferHall y = hall(0);
        y.player(7560, 0);
        y.setWindow(0, true, 5, 5);
        Check.refused("promise 11: no window ever", y, CANNOT, () -> y.sign(0, 0, 1, 0));
        y.days(5);
        Check.due("promise 11: the first day of one", true, () -> y.isOpen(0));
        y.days(1);
        y.player(7560, 0);
        Check.due("promise 11: the day behind", 0L, () -> y.sign(0, 0, 1, 0));
        y.setWindow(0, true, 0, 0);
        Check.due("promise 11: the day 0", 0L, () -> y.sign(1, 0, 1, 0));
    }

    private static void trainingMoney() {
        TransferHall x = hall(32400);
        x.player(11 * 360 + 359, 0);
        Check.due("promise 39: nothing yet", 0L, () -> x.training(0, 1));
        x.days(1);
        x.enrol(0, 0);
        x.days(359);
        x.days(1);
        x.leave(0);
        Check.due("promise 39: category 1", 0L, () -> x.training(0, 0));
        Check.due("promise 39: category 2", 360 * 60L, () -> x.training(0, 1));
        Check.due("promise 39: category 3", 360 * 30L, () -> x.training(0, 2));
        Check.due("promise 39: category 4", 360 * 10L, () -> x.training(0, 3));
        Check.due("promise 39: category 1 of another land", 360 * 90L, () -> x.training(0, 4));
        x.enrol(0, 1);
        x.days(1);
        Check.due("promise 39: a present one too", 361 * 90L, () -> x.training(0, 4));
        Check.refused("promise 39: no such player", x, INDEX, () -> x.training(1, 0));
        Check.refused("promise 39: no such club", x, INDEX, () -> x.training(0, 5));
        for (int i = 0; i < 4; i++) {
            x.days(360);
        }
        x.setWindow(0, false, 0, 359);
        x.setWindow(1, false, 0, 359);
        Check.due("promise 39: 16 years", 16, () -> x.age(0) - 1);
        Check.refused("promise 11: has not the cash", x, STATE, () -> x.sign(0, 2, 1, 0));
        long due = 360 * 10L + 1441 * 10L;
        Check.due("promise 11: the training money", due, () -> x.sign(0, 3, 1, 0));
        Check.due("promise 11: is paid", 32400 - due, () -> x.cash(3));
        Check.due("promise 11: to the first", 32400 + 3600L, () -> x.cash(0));
        Check.due("promise 11: to the second", 32400 + 14410L, () -> x.cash(1));
        Check.due("promise 39: none behind the first contract", 0L, () -> x.training(0, 4));
        x.days(360);
        Check.due("promise 11: none for the second contract", 0L, () -> x.sign(0, 2, 1, 0));

        TransferHall y = hall(900);
        y.player(21 * 360 - 10, 0);
        y.enrol(0, 1);
        y.days(20);
        Check.due("promise 39: up to the day ahead of 21", 900L, () -> y.training(0, 4));
        Check.due("promise 11: just the cash", 900L, () -> y.sign(0, 4, 1, 0));

        TransferHall z = hall(10);
        z.player(7560, 0);
        z.player(7560, 0);
        z.sign(0, 0, 1, 11);
        z.days(1);
        Check.refused("promise 11: less than nothing is not the cash", z, STATE, () -> z.sign(1, 0, 1, 0));
        Check.refused("promise 11: what cannot be first", z, CANNOT, () -> z.sign(0, 0, 1, 0));
    }

    private static void release() {
        TransferHall x = hall(0);
        x.player(7560, 0);
        Check.refused("promise 12: no contract", x, CANNOT, () -> x.setRelease(0, 5));
        x.sign(0, 0, 1, 0);
        Check.due("promise 12: none before", -1, () -> x.setRelease(0, 99999999));
        Check.due("promise 12: the one before", 99999999, () -> x.setRelease(0, 0));
        Check.due("promise 12: 0 before", 0, () -> x.setRelease(0, -1));
        Check.due("promise 12: taken off", -1, () -> x.contract(0, 'r'));
        Check.refused("promise 12: -2", x, ARGUMENT, () -> x.setRelease(0, -2));
        Check.refused("promise 12: 100000000", x, ARGUMENT, () -> x.setRelease(0, 100000000));
        Check.refused("promise 12: no such player, the index first", x, INDEX, () -> x.setRelease(1, -2));
        x.player(7560, 0);
        Check.refused("promise 12: the argument first", x, ARGUMENT, () -> x.setRelease(1, -2));
    }

    private static void contracts() {
        TransferHall x = hall(0);
        x.player(7560, 0);
        x.player(7000, 0);
        Check.refused("promise 13: nowhere", x, java.util.NoSuchElementException.class, () -> x.clubOf(0));
        Check.refused("promise 14: none", x, java.util.NoSuchElementException.class, () -> x.boundTo(0));
        Check.refused("promise 15: none", x, java.util.NoSuchElementException.class, () -> x.contract(0, 'u'));
        Check.refused("promise 15: the argument first", x, ARGUMENT, () -> x.contract(0, 'x'));
        Check.refused("promise 15: the index first", x, INDEX, () -> x.contract(2, 'x'));
        Check.refused("promise 13: no such player", x, INDEX, () -> x.clubOf(2));
        Check.refused("promise 13: player -1", x, INDEX, () -> x.clubOf(-1));
        Check.refused("promise 14: no such player", x, INDEX, () -> x.boundTo(2));
        Check.refused("promise 16: no such player", x, INDEX, () -> x.age(2));
        Check.refused("promise 16: player -1", x, INDEX, () -> x.age(-1));
        x.days(2);
        x.sign(0, 1, 2, 33);
        x.enrol(1, 2);
        Check.due("promise 13: by a contract", 1, () -> x.clubOf(0));
        Check.due("promise 13: as a youth", 2, () -> x.clubOf(1));
        Check.due("promise 14: by a contract", 1, () -> x.boundTo(0));
        Check.due("promise 14: as a youth", NOTHING, () -> x.boundTo(1));
        Check.due("promise 15: until", 722, () -> x.contract(0, 'u'));
        Check.due("promise 15: wage", 33, () -> x.contract(0, 'w'));
        Check.due("promise 15: release", -1, () -> x.contract(0, 'r'));
        Check.due("promise 15: fee", 0, () -> x.contract(0, 'f'));
        Check.due("promise 15: share", 0, () -> x.contract(0, 's'));
        x.lend(0, 3, 5, 0, 0);
        Check.due("promise 13: on loan", 3, () -> x.clubOf(0));
        Check.due("promise 14: on loan", 1, () -> x.boundTo(0));
        x.days(360);
        x.days(357);
        Check.due("promise 16: 22 years", 22, () -> x.age(0));
        x.days(1);
        Check.due("promise 16: 23 years", 23, () -> x.age(0));
        x.days(1);
        Check.due("promise 15: its last day", 722, () -> x.contract(0, 'u'));
        x.days(1);
        Check.due("promise 15: over", NOTHING, () -> x.contract(0, 'u'));
    }

    private static void stints() {
        TransferHall x = hall(0);
        x.player(6000, 0);
        Check.due("promise 17: none", 0, () -> x.stints(0));
        x.days(3);
        x.enrol(0, 1);
        Check.due("promise 17: one of today", 1, () -> x.stints(0));
        Check.due("promise 18: to today", 3, () -> x.stint(0, 0, 't'));
        x.days(4);
        Check.due("promise 18: to today", 7, () -> x.stint(0, 0, 't'));
        x.sign(0, 1, 1, 0);
        Check.due("promise 17: two", 2, () -> x.stints(0));
        x.days(1);
        x.lend(0, 2, 2, 0, 0);
        x.days(3);
        int[][] want = {{1, 3, 7, 0}, {1, 7, 8, 1}, {2, 8, 10, 2}, {1, 10, 11, 1}};
        Check.due("promise 17: four", 4, () -> x.stints(0));
        for (int i = 0; i < 4; i++) {
            for (int k = 0; k < 4; k++) {
                int index = i;
                char what = "cftk".charAt(k);
                Check.due("promise 18: stint " + i + " " + what, want[i][k], () -> x.stint(0, index, what));
            }
        }
        Check.refused("promise 18: no such stint", x, java.util.NoSuchElementException.class, () -> x.stint(0, 4, 'c'));
        Check.refused("promise 18: stint -1", x, java.util.NoSuchElementException.class, () -> x.stint(0, -1, 'c'));
        Check.refused("promise 18: the argument first", x, ARGUMENT, () -> x.stint(0, 4, 'd'));
        Check.refused("promise 18: the index of the player first", x, INDEX, () -> x.stint(1, 4, 'd'));
        Check.refused("promise 17: no such player", x, INDEX, () -> x.stints(1));
        Check.refused("promise 17: player -1", x, INDEX, () -> x.stints(-1));
    }

    private static void grown() {
        TransferHall x = hall(0);
        x.player(15 * 360 - 5, 0);
        x.enrol(0, 0);
        x.days(5);
        Check.due("promise 19: ahead of 15", 0, () -> x.grown(0, 0));
        x.days(3);
        Check.due("promise 19: up to yesterday", 3, () -> x.grown(0, 0));
        Check.due("promise 19: another club", 0, () -> x.grown(0, 1));
        x.leave(0);
        x.days(2);
        x.enrol(0, 0);
        x.days(400);
        Check.due("promise 19: two stints", 403, () -> x.grown(0, 0));
        x.player(21 * 360 - 7, 0);
        x.enrol(1, 1);
        x.days(10);
        Check.due("promise 19: up to the day ahead of 21", 7, () -> x.grown(1, 1));
        Check.refused("promise 19: no such player", x, INDEX, () -> x.grown(2, 0));
        Check.refused("promise 19: no such club", x, INDEX, () -> x.grown(0, 5));
        Check.refused("promise 19: club -1", x, INDEX, () -> x.grown(0, -1));
    }
}
