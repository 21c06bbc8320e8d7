import java.lang.reflect.InvocationTargetException;
import java.lang.reflect.Method;
import java.util.ArrayList;
import java.util.Arrays;
import java.util.List;
import java.util.Map;
import java.util.TreeMap;

/** Long runs of calls, the same on the program and on the naive model: each answer, and the whole state at times. */
public final class ModelTest {
    private static final int RUNS = 200;
    private static final int CALLS = 420;
    private static final String[] QUERIES = {"isOpen", "opensIn", "clubOf", "boundTo", "contract", "age", "stints", "stint", "grown", "state", "canRun",
        "loans", "cash", "federation", "owes", "isBanned", "trained", "training", "result", "points", "squad", "homegrown", "loser", "print", "wageShare", "meanAge", "isSound"};
    private static final Map<String, Method> HALL = methods(TransferHall.class);
    private static final Map<String, Method> MODEL = methods(Model.class);
    private static final Map<String, int[]> SEEN = new TreeMap<>();

    private final long seed;
    private long dice;
    private final TransferHall hall = new TransferHall();
    private final Model model = new Model();
    private final List<String> told = new ArrayList<>();
    private final int theme;

    private ModelTest(long seed) {
        this.seed = seed;
        dice = seed * 0x9E3779B97F4A7C15L + 12345;
        for (int i = 0; i < 5; i++) roll(7);
        theme = (int) (seed % 7);
    }

    private static Map<String, Method> methods(Class<?> type) {
        Map<String, Method> found = new TreeMap<>();
        for (Method one : type.getDeclaredMethods()) {
            if (java.lang.reflect.Modifier.isPublic(one.getModifiers())) found.put(one.getName(), one);
        }
        return found;
    }

    private int roll(int sides) {
        dice = dice * 6364136223846793005L + 1442695040888963407L;
        return (int) ((dice >>> 33) % sides);
    }

    private int pick(int... from) {
        return from[roll(from.length)];
    }

    private static Object answer(Method method, Object on, Object[] args) {
        try {
            return method.invoke(on, args);
        } catch (InvocationTargetException e) {
            return "throws " + e.getCause().getClass().getSimpleName();
        } catch (IllegalAccessException e) {
            throw new IllegalStateException(e);
        }
    }

    private Object call(String name, Object... args) {
        Object due = answer(MODEL.get(name), model, args);
        Object got = answer(HALL.get(name), hall, args);
        told.add(name + Arrays.toString(args) + " -> " + got);
        int[] seen = SEEN.computeIfAbsent(name + (due instanceof String ? " " + due : ""), k -> new int[1]);
        seen[0]++;
        if (!due.equals(got)) {
            System.out.println("run " + seed + ":");
            for (String line : told) if (Arrays.stream(QUERIES).noneMatch(q -> line.startsWith(q + "["))) System.out.println("  " + line);
            System.out.println("  " + told.get(told.size() - 1) + ", due is " + due);
            System.exit(1);
        }
        return got;
    }

    /** Mostly one that is there, at times one that is not. */
    private int number(int count) {
        return roll(40) == 0 ? pick(-1, count, Integer.MAX_VALUE, Integer.MIN_VALUE) : count == 0 ? 0 : roll(count);
    }

    private int within(int low, int high) {
        return roll(60) == 0 ? pick(low - 1, high + 1, Integer.MIN_VALUE, Integer.MAX_VALUE) : roll(8) == 0 ? pick(low, high) : low + roll(high - low + 1);
    }

    private int club() { return number(model.clubs.size()); }
    private int player() { return number(model.people.size()); }
    private int bid() { return number(model.bids.size()); }
    private int game() { return number(model.games.size()); }
    /** Late ones more often, because these are what goes on. */
    private int lateBid() { int n = model.bids.size(); return n > 4 && roll(3) > 0 ? n - 1 - roll(4) : bid(); }
    private int lateGame() { int n = model.games.size(); return n > 2 && roll(3) > 0 ? n - 1 - roll(2) : game(); }

    private void begin() {
        int lands = 1 + roll(3);
        int clubs = 2 + roll(6);
        for (int i = 0; i < 4; i++) {
            if (roll(3) > 0) call("setWindow", i, false, roll(60), 200 + roll(160));
        }
        for (int i = 0; i < clubs; i++) call("club", roll(lands), 1 + roll(4), pick(0, 1000, theme >= 3 ? 1000 : 100000, theme >= 3 ? 2000 : 1000000, theme >= 3 ? 500 : 9999999));
        for (int i = 0; i < (theme == 2 ? 8 : 3) + roll(8); i++) call("player", pick(4300, 4400, 5000, 5400, 5750, 5800, 6400, 6500, 7000, 7190, 7500, 7600, 9000, 14399) + roll(20) - 20, roll(lands));
        if (roll(3) > 0) for (int i = 0; i < model.people.size(); i++) {
            if (roll(2) == 0) call("enrol", i, roll(clubs));
            else call("sign", i, roll(clubs), 1 + roll(5), roll(4) == 0 ? roll(9999) : roll(40));
        }
    }

    private int span() {
        return pick(1, 1, 1, 2, 3, 5, 10, 15, 30, 60, 89, 90, 91, 180, 270, 360, within(1, 400));
    }

    private void step() {
        if (roll(8) == 0) {
            story();
            return;
        }
        switch (roll(48)) {
            case 0: call("setWindow", within(0, 3), roll(2) == 0, within(0, 359), within(0, 359)); break;
            case 1: call("club", within(0, 3), within(1, 4), within(0, 9999999)); break;
            case 2: call("player", within(0, 14399), within(0, 3)); break;
            case 3: case 4: call("income", club(), roll(2) == 0 ? within(1, 999999) : 1 + roll(4000)); break;
            case 5: case 6: case 7: case 8: call("days", roll(3) == 0 ? span() : pick(1, 1, 2, 7, 15)); break;
            case 9: case 10: call("enrol", player(), club()); break;
            case 11: call("leave", player()); break;
            case 12: case 13: case 14: case 15: call("sign", player(), club(), within(1, 5), roll(3) == 0 ? within(0, 9999) : roll(50)); break;
            case 16: call("setRelease", player(), pick(-1, 0, 1000, 50000, within(-1, 99999999))); break;
            case 17: case 18: case 19: case 20: trade(); break;
            case 21: call("offer", club(), player(), fee(), within(1, 4), within(1, 5), within(0, 9999), within(0, 50)); break;
            case 22: call("answer", lateBid(), roll(4) > 0); break;
            case 23: call("file", lateBid()); break;
            case 24: call("certify", lateBid(), roll(4) > 0); break;
            case 25: case 26: call("complete", lateBid()); break;
            case 27: case 28: call("link", lateBid()); break;
            case 29: if (roll(6) == 0) call("cut"); break;
            case 30: call("run"); break;
            case 31: call("canRun"); break;
            case 32: case 33: call("rule", lateBid()); break;
            case 34: case 35: case 36: call("lend", player(), club(), pick(1, 5, 30, within(1, 360)), pick(0, 1, 1, 2, within(0, 40)), roll(2) == 0 ? roll(900) : within(0, 9999999)); break;
            case 37: call("recall", player()); break;
            case 38: case 39: call("match", club(), club()); break;
            case 40: case 41: case 42: case 43: call("appear", lateGame(), side(), player()); break;
            case 44: case 45: call("protest", lateGame(), side()); break;
            case 46: chain(); break;
            default: query(QUERIES[roll(QUERIES.length)]);
        }
    }

    /** The rarer things need several calls that fit each other. */
    private void story() {
        switch (theme == 0 ? 1 + roll(6) : theme) {
            case 1: loanStory(); break;
            case 2: limitStory(); break;
            case 3: chain(); break;
            case 4: debtStory(); break;
            case 5: dayStory(); break;
            default: rulingStory();
        }
    }

    /** Matches and moves of one day: what begins on it counts, and what ends on it does not, in whatever order. */
    private void dayStory() {
        int player = player();
        int from = club();
        int to = club();
        Object made = roll(2) == 0 ? call("offer", to, player, roll(500), 1, 2, 1, 10) : null;
        if (made instanceof Integer) {
            call("answer", made, true);
            call("file", made);
            call("certify", made, true);
        }
        for (int i = 0; i < 5; i++) {
            switch (roll(9)) {
                case 0: case 1: Object game = call("match", from, to); if (game instanceof Integer) call("appear", game, roll(2) == 0 ? from : to, player); break;
                case 2: call("protest", lateGame(), roll(2) == 0 ? from : to); break;
                case 3: call("leave", player); call("enrol", player, roll(2) == 0 ? from : to); break;
                case 4: call("sign", player, roll(2) == 0 ? from : to, 1, 1); break;
                case 5: call("lend", player, to, pick(1, 1, 2), pick(0, 1, 2), roll(500)); break;
                case 6: call("recall", player); break;
                default: if (made instanceof Integer) call(roll(2) == 0 ? "complete" : "rule", made);
            }
        }
        if (roll(2) == 0) call("protest", lateGame(), to);
        if (roll(2) == 0) call("days", pick(1, 1, 2));
    }

    private void loanStory() {
        int player = player();
        int club = club();
        int days = pick(1, 2, 5, 30);
        Object end = call("lend", player, club, days, pick(1, 1, 2), roll(500));
        for (int i = 0; i < 2 && end instanceof Integer; i++) {
            Object game = call("match", club, club());
            if (game instanceof Integer) call("appear", game, club, player);
        }
        if (roll(4) == 0) call("recall", player);
        call("days", days);
    }

    private void limitStory() {
        int lender = club();
        int borrower = roll(2) == 0 ? club() : lender;
        for (int i = 0; i < model.people.size(); i++) {
            Model.Person one = model.people.get(i);
            if (one.con == null) call("sign", i, club(), 2, 1);
            if (one.con != null && (one.con.club == lender || borrower != lender)) call("lend", i, roll(3) == 0 ? club() : borrower, 20, 0, 0);
        }
    }

    private void debtStory() {
        int buyer = club();
        Object made = call("offer", buyer, player(), (int) Math.min(9999999, Math.max(4, cashOf(buyer) * (2 + roll(3)))), pick(2, 3, 4), 3, 1, 20);
        if (made instanceof Integer) {
            call("answer", made, true);
            call("file", made);
            call("certify", made, true);
            call("complete", made);
            call("days", pick(90, 91, 180, 270));
            call("isBanned", buyer);
            call("sign", player(), buyer, 1, 1);
            if (roll(2) == 0) call("income", buyer, 999999);
            call("lend", player(), buyer, 1, 0, 0);
            call("days", 1);
        }
    }

    private long cashOf(int club) {
        return club >= 0 && club < model.cash.size() ? Math.max(0, model.cash.get(club)) : 0;
    }

    private void rulingStory() {
        int player = player();
        int buyer = club();
        Object made = call("offer", buyer, player, roll(900), within(1, 4), 2, 1, 10);
        if (!(made instanceof Integer)) return;
        call("answer", made, true);
        call("file", made);
        call("certify", made, true);
        call("complete", made);
        for (int i = 0; i < 3; i++) {
            int other = club();
            Object game = call("match", buyer, other);
            if (game instanceof Integer) {
                call("appear", game, buyer, player);
                call("appear", game, buyer, player());
                if (roll(2) == 0) call("protest", game, other);
            }
        }
        if (roll(2) == 0) call("days", pick(1, 2, 3, 60, 61));
        call("rule", made);
        call("protest", lateGame(), side());
    }

    private int fee() { return pick(0, 5, roll(1000), roll(50000), roll(50000), within(0, 9999999)); }

    private int side() {
        Model.Game last = model.games.isEmpty() ? null : model.games.get(model.games.size() - 1);
        return last == null || roll(4) == 0 ? club() : roll(2) == 0 ? last.a : last.b;
    }

    private void trade() {
        Object made = call("offer", club(), player(), fee(), within(1, 4), within(1, 5), roll(30), within(0, 50));
        if (made instanceof Integer) {
            call("answer", made, true);
            if (roll(4) > 0) call("file", made);
            if (roll(3) == 0) call("certify", made, true);
            if (roll(3) > 0) call("complete", made);
            else call("link", made);
        }
    }

    /** Fees near the cash, so that some orders can be and some can not. */
    private void chain() {
        call("cut");
        for (int i = 0; i < model.people.size() && i < 4; i++) {
            int player = roll(model.people.size());
            int buyer = club();
            if (model.people.get(player).con == null) call("sign", player, club(), 2, 1);
            Object made = call("offer", buyer, player, (int) Math.min(9999999, pick(roll(3000), (int) cashOf(buyer) * pick(7, 9, 10, 11, 15) / 10)), 1, 2, 3, 4);
            if (made instanceof Integer) {
                call("answer", made, true);
                call("file", made);
                call("certify", made, true);
                call("link", made);
            }
        }
        call("canRun");
        call("isSound");
        call("run");
    }

    private void query(String name) {
        switch (name) {
            case "isOpen": case "opensIn": case "federation": call(name, within(0, 3)); break;
            case "clubOf": case "boundTo": case "age": case "stints": call(name, player()); break;
            case "contract": call(name, player(), "uwrfsx".charAt(roll(6))); break;
            case "stint": call(name, player(), roll(5) - 1, "cftkx".charAt(roll(5))); break;
            case "grown": case "training": call(name, player(), club()); break;
            case "state": call(name, bid()); break;
            case "loans": call(name, club(), roll(2) == 0); break;
            case "trained": call(name, player(), within(1, 9999999), club()); break;
            case "result": call(name, club(), pick(-1, 0, 1, 2, 3, Integer.MAX_VALUE, Integer.MIN_VALUE, model.today / 360, model.today / 360 - 1)); break;
            case "loser": call(name, game()); break;
            case "canRun": case "print": case "isSound": call(name); break;
            default: call(name, club());
        }
    }

    private void compareAll() {
        int length = told.size();
        for (int c = 0; c < model.clubs.size(); c++) {
            for (String name : new String[] {"cash", "owes", "isBanned", "points", "squad", "homegrown", "wageShare", "meanAge"}) call(name, c);
            call("loans", c, true);
            call("loans", c, false);
            for (int y = 0; y <= model.today / 360; y++) call("result", c, y);
        }
        for (int p = 0; p < model.people.size(); p++) {
            call("clubOf", p);
            call("boundTo", p);
            call("stints", p);
            call("age", p);
            for (char what : "uwrfs".toCharArray()) call("contract", p, what);
            for (int i = 0; i <= model.stints(p); i++) for (char what : "cftk".toCharArray()) call("stint", p, i, what);
            for (int c = 0; c < model.clubs.size(); c++) {
                call("grown", p, c);
                call("training", p, c);
                call("trained", p, 1 + roll(9999999), c);
            }
        }
        for (int o = 0; o < model.bids.size(); o++) call("state", o);
        for (int g = 0; g < model.games.size(); g++) call("loser", g);
        for (int i = 0; i < 4; i++) { call("isOpen", i); call("opensIn", i); call("federation", i); }
        call("print");
        call("canRun");
        call("isSound");
        while (told.size() > length) told.remove(told.size() - 1);
    }

    private void play() {
        begin();
        for (int i = 0; i < CALLS; i++) {
            step();
            if (i % 20 == 0) compareAll();
            else call("print");
        }
        compareAll();
    }

    public static void main(String[] args) {
        for (int run = 0; run < RUNS; run++) new ModelTest(run).play();
        if (args.length > 0) SEEN.forEach((k, v) -> System.out.println(k + ": " + v[0]));
        Model.EVENTS.forEach((k, v) -> SEEN.put(k, new int[] {v}));
        if (args.length > 0) Model.EVENTS.forEach((k, v) -> System.out.println("event " + k + ": " + v));
        String[] needed = {"chain of 3 in another order", "debt paid late", "four lent", "four borrowed", "two between two clubs", "loan ends by a sale", "points lost", "ruling behind a ruling",
            "ruling loses a match", "share kept", "signs behind a window", "training money", "a fourth club", "banned", "run", "run throws IllegalStateException", "rule", "recall", "complete", "complete throws IllegalStateException", "lend throws IllegalStateException", "sign throws IllegalStateException"};
        for (String one : needed) {
            if (!SEEN.containsKey(one)) {
                System.out.println("the runs never came to: " + one);
                System.exit(1);
            }
        }
        System.out.println("ModelTest: " + RUNS + " runs are alike");
    }
}
