/** Promises 48 to 51: the print, shares and means, soundness. */
public final class FiguresTest {
    private static final Class<IndexOutOfBoundsException> INDEX = IndexOutOfBoundsException.class;
    private static final Class<ArithmeticException> ARITHMETIC = ArithmeticException.class;

    public static void main(String[] args) {
        print();
        wageShare();
        meanAge();
        isSound();
        Check.end("FiguresTest");
    }

    private static void print() {
        TransferHall x = new TransferHall();
        x.club(0, 1, 11);
        x.club(0, 1, 2000);
        x.player(7560, 2);
        x.player(7560, 2);
        long want = ((7L * 31 + 11) * 31 + 2000) * 31 * 31 * 31 * 31 * 31 * 31;
        Check.due("promise 48: registered nowhere", want, x::print);
        x.sign(0, 0, 1, 0);
        x.sign(1, 1, 1, 0);
        long players = (((7L * 31 + 11) * 31 + 2000) * 31 + 1) * 31 + 2;
        Check.due("promise 48: registered", players * 31 * 31 * 31 * 31, x::print);
        int one = x.offer(1, 0, 400, 1, 1, 0, 0);
        x.answer(one, true);
        x.file(one);
        x.complete(one);
        players = (((7L * 31 + 11 + 400 - 20) * 31 + 1600) * 31 + 2) * 31 + 2;
        Check.due("promise 48: federations", (players * 31 * 31 * 31 + 20) * 31, x::print);
    }

    private static void wageShare() {
        TransferHall x = new TransferHall();
        x.club(0, 1, 0);
        x.player(7560, 0);
        x.sign(0, 0, 5, 7);
        Check.refused("promise 49: nothing came in", x, ARITHMETIC, () -> x.wageShare(0));
        x.income(0, 3);
        Check.due("promise 49: no wages", 0f, () -> x.wageShare(0));
        x.days(1);
        Check.due("promise 49: 7 by 3", 7f / 3f, () -> x.wageShare(0));
        x.days(359);
        Check.refused("promise 49: a new year", x, ARITHMETIC, () -> x.wageShare(0));
        x.income(0, 999999);
        x.days(1);
        Check.due("promise 49: of this year alone", 7f / 999999f, () -> x.wageShare(0));
        Check.refused("promise 49: no such club", x, INDEX, () -> x.wageShare(1));
        Check.refused("promise 49: club -1", x, INDEX, () -> x.wageShare(-1));
    }

    private static void meanAge() {
        TransferHall x = new TransferHall();
        x.club(0, 1, 0);
        x.club(0, 1, 0);
        Check.refused("promise 50: none", x, ARITHMETIC, () -> x.meanAge(0));
        x.player(15 * 360 + 359, 0);
        x.player(20 * 360, 0);
        x.player(14399, 0);
        x.enrol(0, 0);
        Check.due("promise 50: years, cut", 15.0, () -> x.meanAge(0));
        x.sign(1, 0, 1, 0);
        Check.due("promise 50: of two", 17.5, () -> x.meanAge(0));
        x.sign(2, 0, 1, 0);
        Check.due("promise 50: of three", 74.0 / 3.0, () -> x.meanAge(0));
        x.lend(2, 1, 9, 0, 0);
        Check.due("promise 50: on loan", 39.0, () -> x.meanAge(1));
        Check.refused("promise 50: no such club", x, INDEX, () -> x.meanAge(2));
        Check.refused("promise 50: club -1", x, INDEX, () -> x.meanAge(-1));
    }

    private static void isSound() {
        TransferHall x = new TransferHall();
        x.club(0, 1, 1000);
        x.club(1, 2, 1000);
        x.player(7000, 0);
        x.enrol(0, 0);
        x.income(1, 99999);
        x.days(5);
        x.sign(0, 1, 3, 5);
        x.days(5);
        Check.due("promise 51: training money and wages", true, x::isSound);
        int one = x.offer(0, 0, 333, 4, 2, 1, 10);
        x.answer(one, true);
        x.file(one);
        x.certify(one, true);
        x.link(one);
        Check.due("promise 51: with a chain", true, x::isSound);
        x.run();
        x.days(50);
        Check.due("promise 51: with parts", true, x::isSound);
        x.rule(one);
        Check.due("promise 51: behind a ruling", true, x::isSound);
        x.days(400);
        Check.due("promise 51: behind the end of a year", true, x::isSound);
    }
}
