/** Promises 42 to 47: squads, matches, protests. Rulings on matches stand in OffersTest. */
public final class MatchesTest {
    private static final Class<IllegalArgumentException> ARGUMENT = IllegalArgumentException.class;
    private static final Class<IllegalStateException> STATE = IllegalStateException.class;
    private static final Class<IndexOutOfBoundsException> INDEX = IndexOutOfBoundsException.class;
    private static final Class<UnsupportedOperationException> CANNOT = UnsupportedOperationException.class;
    private static final Class<java.util.NoSuchElementException> NONE = java.util.NoSuchElementException.class;

    public static void main(String[] args) {
        squads();
        homegrown();
        match();
        appear();
        protest();
        loser();
        movesOnTheDay();
        loansOnTheDay();
        rulingsOnTheDay();
        Check.end("MatchesTest");
    }

    /** Three clubs; player i, 21 years old, under contract at club i. */
    private static TransferHall hall() {
        TransferHall x = new TransferHall();
        for (int i = 0; i < 3; i++) {
            x.club(0, 4, 1000);
            x.player(7560, 0);
            x.sign(i, i, 1, 0);
        }
        return x;
    }

    private static void squads() {
        TransferHall x = hall();
        Check.due("promise 42: by a contract", 1, () -> x.squad(0));
        x.player(5000, 0);
        x.enrol(3, 0);
        Check.due("promise 42: a youth", 2, () -> x.squad(0));
        x.lend(0, 1, 5, 0, 0);
        Check.due("promise 42: not who is lent", 1, () -> x.squad(0));
        Check.due("promise 42: who is borrowed", 2, () -> x.squad(1));
        x.days(360);
        Check.due("promise 42: contracts over", 0, () -> x.squad(1));
        Check.refused("promise 42: no such club", x, INDEX, () -> x.squad(3));
        Check.refused("promise 42: club -1", x, INDEX, () -> x.squad(-1));
        Check.refused("promise 43: no such club", x, INDEX, () -> x.homegrown(3));
        Check.refused("promise 43: club -1", x, INDEX, () -> x.homegrown(-1));
    }

    private static void homegrown() {
        TransferHall y = new TransferHall();
        y.club(0, 4, 0);
        y.player(15 * 360, 0);
        y.enrol(0, 0);
        for (int i = 0; i < 6; i++) {
            if (i == 3) {
                y.leave(0);
            }
            y.days(360);
        }
        y.sign(0, 0, 1, 0);
        Check.due("promise 43: the years from 15 to 17 are enough", 1, () -> y.homegrown(0));

        TransferHall x = new TransferHall();
        x.club(0, 4, 1000000);
        x.club(0, 4, 1000000);
        x.club(1, 4, 1000000);
        x.setWindow(0, false, 0, 359);
        x.setWindow(1, false, 0, 359);
        x.player(18 * 360, 0);
        x.player(18 * 360 + 1, 0);
        x.player(21 * 360 - 1, 0);
        x.player(21 * 360, 0);
        x.sign(2, 0, 5, 0);
        x.sign(3, 0, 5, 0);
        Check.due("promise 43: younger than 21", 1, () -> x.homegrown(0));
        x.enrol(0, 0);
        x.enrol(1, 0);
        x.days(100);
        Check.due("promise 43: two youths", 2, () -> x.homegrown(0));
        x.leave(0);
        x.leave(1);
        x.enrol(0, 1);
        x.enrol(1, 1);
        for (int i = 0; i < 3; i++) {
            x.days(360);
        }
        x.sign(0, 0, 1, 0);
        x.sign(1, 0, 1, 0);
        Check.due("promise 19: 980 days at one", 980, () -> x.grown(0, 1));
        Check.due("promise 43: 1080 days at clubs of the land, 1079 are too few", 1, () -> x.homegrown(0));
        int away = x.offer(2, 0, 0, 1, 1, 0, 0);
        x.answer(away, true);
        x.file(away);
        x.certify(away, true);
        x.complete(away);
        Check.due("promise 43: not of another land", 0, () -> x.homegrown(2));
    }

    private static void match() {
        TransferHall x = hall();
        Check.refused("promise 44: no such club", x, INDEX, () -> x.match(3, 0));
        Check.refused("promise 44: nor the other", x, INDEX, () -> x.match(0, 3));
        Check.refused("promise 44: the index first", x, INDEX, () -> x.match(3, 3));
        Check.refused("promise 44: both the same", x, ARGUMENT, () -> x.match(1, 1));
        for (int i = 0; i < 40; i++) {
            int number = i;
            Check.due("promise 44: match " + i, number, () -> x.match(0, 1));
        }
        Check.refused("promise 44: the 41st", x, STATE, () -> x.match(0, 1));
        Check.refused("promise 44: the argument first", x, ARGUMENT, () -> x.match(1, 1));
    }

    private static void appear() {
        TransferHall x = hall();
        x.match(0, 1);
        x.match(0, 1);
        Check.due("promise 45: is entitled", true, () -> x.appear(0, 0, 0));
        Check.due("promise 45: is not", false, () -> x.appear(0, 1, 2));
        Check.refused("promise 45: told already", x, CANNOT, () -> x.appear(0, 0, 0));
        Check.refused("promise 45: for the other club", x, CANNOT, () -> x.appear(0, 1, 0));
        Check.due("promise 45: in another match", true, () -> x.appear(1, 0, 0));
        Check.refused("promise 45: no such match", x, INDEX, () -> x.appear(2, 0, 0));
        Check.refused("promise 45: match -1", x, INDEX, () -> x.appear(-1, 0, 0));
        Check.refused("promise 45: no such club", x, INDEX, () -> x.appear(0, 3, 0));
        Check.refused("promise 45: no such player, the index first", x, INDEX, () -> x.appear(0, 2, 3));
        Check.refused("promise 45: none of its clubs", x, ARGUMENT, () -> x.appear(0, 2, 2));
        x.lend(1, 0, 5, 0, 0);
        Check.due("promise 45: lent", false, () -> x.appear(1, 1, 1));
        x.days(1);
        Check.refused("promise 45: not of today", x, CANNOT, () -> x.appear(0, 0, 1));
        Check.refused("promise 45: the argument first", x, ARGUMENT, () -> x.appear(0, 2, 1));
        x.match(0, 1);
        Check.due("promise 45: borrowed", true, () -> x.appear(2, 0, 1));
        x.player(5000, 0);
        x.enrol(3, 1);
        Check.due("promise 45: a youth", true, () -> x.appear(2, 1, 3));
        x.player(5000, 0);
        Check.due("promise 45: nowhere", false, () -> x.appear(2, 1, 4));
    }

    private static void protest() {
        TransferHall x = hall();
        for (int i = 0; i < 4; i++) {
            x.match(0, 1);
            x.appear(i, 0, 0);
            x.appear(i, 1, 2);
        }
        Check.due("promise 46: the other one has lost", true, () -> x.protest(0, 0));
        Check.due("promise 46: the other one has not", false, () -> x.protest(0, 1));
        Check.refused("promise 46: has protested", x, CANNOT, () -> x.protest(0, 0));
        Check.refused("promise 46: has protested, in vain", x, CANNOT, () -> x.protest(0, 1));
        Check.refused("promise 46: no such match", x, INDEX, () -> x.protest(4, 0));
        Check.refused("promise 46: match -1", x, INDEX, () -> x.protest(-1, 0));
        Check.refused("promise 46: no such club", x, INDEX, () -> x.protest(0, 3));
        Check.refused("promise 46: none of its clubs", x, ARGUMENT, () -> x.protest(0, 2));
        x.sign(x.player(7560, 0), 1, 1, 0);
        x.days(2);
        Check.due("promise 46: 2 days ago", true, () -> x.protest(1, 0));
        x.match(0, 1);
        Check.due("promise 46: of today", false, () -> x.protest(4, 0));
        x.days(1);
        Check.refused("promise 46: more than 2 days ago", x, CANNOT, () -> x.protest(2, 0));
        Check.refused("promise 46: the argument first", x, ARGUMENT, () -> x.protest(2, 2));
        Check.due("promise 41: 3 for each", 6, () -> x.points(0));
        Check.due("promise 41: no other", 0, () -> x.points(1));
    }

    private static void loser() {
        TransferHall x = hall();
        x.match(0, 1);
        Check.refused("promise 47: none has", x, NONE, () -> x.loser(0));
        x.appear(0, 0, 2);
        Check.refused("promise 47: nobody protested", x, NONE, () -> x.loser(0));
        x.protest(0, 1);
        Check.due("promise 47: the first", 0, () -> x.loser(0));
        x.appear(0, 1, 0);
        Check.due("promise 47: not the other one yet", 0, () -> x.loser(0));
        x.protest(0, 0);
        Check.refused("promise 47: both have", x, NONE, () -> x.loser(0));
        Check.due("promise 41: points for both", 3, () -> x.points(0));
        Check.due("promise 41: points for both", 3, () -> x.points(1));
        Check.refused("promise 47: no such match", x, INDEX, () -> x.loser(1));
        Check.refused("promise 47: match -1", x, INDEX, () -> x.loser(-1));
        x.match(2, 1);
        x.protest(1, 2);
        Check.due("promise 45: told behind the protest", false, () -> x.appear(1, 1, 0));
        Check.due("promise 47: lost then", 1, () -> x.loser(1));
    }

    /** A registration is of its first day, and not of that on which it ends, whenever on that day the player was told. */
    private static void movesOnTheDay() {
        TransferHall x = hall();
        x.player(7560, 0);
        x.match(0, 1);
        Check.due("promise 45: registered nowhere", false, () -> x.appear(0, 0, 3));
        Check.due("promise 46: not entitled by now", true, () -> x.protest(0, 1));
        Check.due("promise 47: lost by now", 0, () -> x.loser(0));
        x.sign(3, 0, 1, 0);
        Check.due("promise 41: signed later on that day", 0, () -> x.points(1));
        Check.refused("promise 47: not lost any more", x, NONE, () -> x.loser(0));
        Check.due("promise 45: the one who goes", true, () -> x.appear(0, 1, 1));
        Check.due("promise 46: entitled by now", false, () -> x.protest(0, 0));
        complete(x, 2, 1);
        Check.due("promise 47: sold later on that day", 1, () -> x.loser(0));
        Check.due("promise 41: sold later on that day", 3, () -> x.points(0));
        x.days(1);
        x.match(1, 2);
        Check.due("promise 45: entitled, and sold on a later day", true, () -> x.appear(1, 2, 1));
        x.days(1);
        complete(x, 0, 1);
        Check.due("promise 46: entitled on the day of the match", false, () -> x.protest(1, 1));

        TransferHall y = hall();
        y.player(5000, 0);
        y.enrol(3, 0);
        y.match(0, 1);
        Check.due("promise 45: a youth", true, () -> y.appear(0, 0, 3));
        y.leave(3);
        Check.due("promise 46: left on the day that it began", true, () -> y.protest(0, 1));
        y.enrol(3, 0);
        Check.refused("promise 47: is there again on that day", y, NONE, () -> y.loser(0));
        y.days(1);
        y.match(0, 1);
        y.appear(1, 0, 3);
        y.leave(3);
        y.enrol(3, 1);
        Check.due("promise 46: left for the other one on that day", true, () -> y.protest(1, 1));
        Check.refused("promise 47: was there the day ahead", y, NONE, () -> y.loser(0));
    }

    private static void loansOnTheDay() {
        TransferHall x = hall();
        x.match(0, 1);
        Check.due("promise 45: lent later on that day", false, () -> x.appear(0, 1, 0));
        x.match(0, 2);
        Check.due("promise 45: for another club", false, () -> x.appear(1, 2, 0));
        x.lend(0, 1, 1, 1, 0);
        Check.due("promise 46: entitled by the loan", false, () -> x.protest(0, 0));
        x.days(1);
        Check.due("promise 8: the match of the first day counts for the obligation", 1, () -> x.boundTo(0));

        TransferHall y = hall();
        y.match(0, 1);
        y.appear(0, 1, 0);
        y.match(0, 2);
        y.appear(1, 2, 0);
        y.days(1);
        y.match(0, 1);
        y.appear(2, 1, 0);
        y.match(0, 1);
        y.lend(0, 1, 5, 2, 0);
        y.appear(3, 1, 0);
        Check.due("promise 32: both matches of the day, not that of the day ahead", 2, () -> y.recall(0));
        Check.due("promise 46: the loan that ended on that day is none", true, () -> y.protest(2, 0));
        y.lend(0, 1, 5, 2, 0);
        y.days(2);
        y.match(0, 1);
        y.appear(4, 0, 0);
        y.match(0, 1);
        y.appear(5, 1, 0);
        Check.due("promise 32: not for the club that lent, but for that of the loan, on its last day too", 3, () -> y.recall(0));
        Check.due("promise 46: the loan is not of the day on which it ends", true, () -> y.protest(5, 0));
        Check.due("promise 46: but the registration behind it is", false, () -> y.protest(4, 1));
    }

    private static void rulingsOnTheDay() {
        TransferHall x = hall();
        x.match(0, 1);
        x.match(0, 1);
        Check.due("promise 45: bought later on that day", false, () -> x.appear(0, 1, 0));
        Check.due("promise 45: not bought yet", true, () -> x.appear(1, 0, 0));
        complete(x, 1, 0);
        Check.due("promise 46: bought by now", false, () -> x.protest(0, 0));
        Check.due("promise 46: sold by now", true, () -> x.protest(1, 1));
        Check.due("promise 30: loses the match of its first day", true, () -> x.rule(0));
        Check.due("promise 47: the club that bought", 1, () -> x.loser(0));
        Check.due("promise 47: the old registration ended all the same", 0, () -> x.loser(1));

        TransferHall y = hall();
        y.match(0, 1);
        y.appear(0, 1, 2);
        y.appear(0, 1, 0);
        y.protest(0, 0);
        complete(y, 1, 0);
        Check.due("promise 47: lost by another player", 1, () -> y.loser(0));
        Check.due("promise 30: loses no match that was not lost", false, () -> y.rule(0));
    }

    private static void complete(TransferHall x, int buyer, int player) {
        int offer = x.offer(buyer, player, 0, 1, 1, 0, 0);
        x.answer(offer, true);
        x.file(offer);
        x.complete(offer);
    }
}
