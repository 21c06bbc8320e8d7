import java.util.ArrayList;
import java.util.List;
import java.util.concurrent.Callable;

/** What the tests of the promises share: answers that are due, and calls that throw and change nothing. */
final class Check {
    private static int wrong = 0;
    private static int made = 0;

    private Check() {
    }

    static void due(String what, Object want, Callable<?> call) {
        made++;
        Object got = answer(call);
        if (!want.equals(got)) {
            wrong++;
            System.out.println(what + ": answered " + got + ", due is " + want);
        }
    }

    /** The call throws just this class, and all that the hall answers is as before. */
    static void refused(String what, TransferHall hall, Class<? extends RuntimeException> want, Callable<?> call) {
        List<Object> before = all(hall);
        due(what, "throws " + want.getSimpleName(), call);
        due(what + ", changes nothing", "", () -> firstDifference(before, all(hall)));
    }

    private static String firstDifference(List<Object> before, List<Object> behind) {
        for (int i = 0; i < before.size(); i++) {
            if (!before.get(i).equals(behind.get(i))) {
                return "answer " + i + " was " + before.get(i) + " and is " + behind.get(i);
            }
        }
        return "";
    }

    private static Object answer(Callable<?> call) {
        try {
            return call.call();
        } catch (Exception e) {
            // The class throws for itself and without words: anything else came of the machine or the library.
            boolean isOwn = e.getMessage() == null && e.getStackTrace()[0].getClassName().startsWith("TransferHall");
            return (isOwn ? "throws " : "is thrown ") + e.getClass().getSimpleName();
        }
    }

    private static void add(List<Object> list, Callable<?> call) {
        list.add(answer(call));
    }

    /** All that a hall answers without being changed. */
    static List<Object> all(TransferHall x) {
        List<Object> list = new ArrayList<>();
        for (int i = 0; i < 10; i++) {
            int c = i;
            add(list, () -> x.cash(c));
            add(list, () -> x.owes(c));
            add(list, () -> x.isBanned(c));
            add(list, () -> x.points(c));
            add(list, () -> x.squad(c));
            add(list, () -> x.homegrown(c));
            add(list, () -> x.loans(c, true));
            add(list, () -> x.loans(c, false));
            add(list, () -> x.wageShare(c));
            add(list, () -> x.meanAge(c));
            for (int k = 0; k < 4; k++) {
                int year = k;
                add(list, () -> x.result(c, year));
            }
        }
        for (int i = 0; i < 24; i++) {
            int p = i;
            add(list, () -> x.age(p));
            add(list, () -> x.clubOf(p));
            add(list, () -> x.boundTo(p));
            add(list, () -> x.stints(p));
            for (char what : "uwrfs".toCharArray()) {
                add(list, () -> x.contract(p, what));
            }
            for (int k = 0; k < 5; k++) {
                int index = k;
                for (char what : "cftk".toCharArray()) {
                    add(list, () -> x.stint(p, index, what));
                }
            }
            for (int k = 0; k < 4; k++) {
                int c = k;
                add(list, () -> x.grown(p, c));
                add(list, () -> x.training(p, c));
                add(list, () -> x.trained(p, 9999999, c));
            }
        }
        for (int i = 0; i < 30; i++) {
            int o = i;
            add(list, () -> x.state(o));
        }
        for (int i = 0; i < 40; i++) {
            int m = i;
            add(list, () -> x.loser(m));
        }
        for (int i = 0; i < 4; i++) {
            int land = i;
            add(list, () -> x.isOpen(land));
            add(list, () -> x.opensIn(land));
            add(list, () -> x.federation(land));
        }
        add(list, x::print);
        add(list, x::canRun);
        add(list, x::isSound);
        return list;
    }

    static void end(String test) {
        System.out.println(test + ": " + (made - wrong) + " answers are as due, " + wrong + " are not");
        if (wrong != 0) {
            System.exit(1);
        }
    }
}
