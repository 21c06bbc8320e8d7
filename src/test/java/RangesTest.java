import java.lang.reflect.InvocationTargetException;
import java.lang.reflect.Method;
import java.util.ArrayList;
import java.util.List;
import java.util.Set;
import java.util.TreeSet;
import java.util.concurrent.Callable;

/**
 * Each argument of each call of the face, two at a time: the least and the most that are taken, one less and one more,
 * and the ends of int. What is no such thing comes ahead of what is out of range, and a call that throws changes nothing.
 */
public final class RangesTest {
    /** c, p, o, m: numbers of clubs, players, offers, matches; a:b: a range; B: a boolean; *: any number; letters behind '. */
    private static final String[] FACE = {
        "setWindow 0:3 B 0:359 0:359", "isOpen 0:3", "opensIn 0:3", "club 0:3 1:4 0:9999999", "player 0:14399 0:3", "income c 1:999999", "days 1:400",
        "enrol p c", "leave p", "sign p c 1:5 0:9999", "setRelease p -1:99999999", "clubOf p", "boundTo p", "contract p 'uwrfs", "age p", "stints p",
        "stint p * 'cftk", "grown p c",
        "offer c p 0:9999999 1:4 1:5 0:9999 0:50", "answer o B", "file o", "certify o B", "state o", "complete o", "link o", "cut", "run", "canRun", "rule o",
        "lend p c 1:360 0:40 0:9999999", "recall p", "loans c B",
        "cash c", "federation 0:3", "owes c", "isBanned c", "trained p 1:9999999 c", "training p c", "result c *", "points c",
        "squad c", "homegrown c", "match c c", "appear m c p", "protest m c", "loser m", "print", "wageShare c", "meanAge c", "isSound"};
    private static final int CLUBS = 3;
    private static final int PLAYERS = 4;
    private static final int OFFERS = 5;
    private static final int MATCHES = 2;

    public static void main(String[] args) {
        Set<String> seen = new TreeSet<>();
        for (String line : FACE) {
            String[] words = line.split(" ");
            seen.add(words[0]);
            sweep(words, method(words[0]));
        }
        Check.due("all calls of the face", 50, seen::size);
        Check.end("RangesTest");
    }

    private static Method method(String name) {
        for (Method one : TransferHall.class.getMethods()) {
            if (one.getName().equals(name)) {
                return one;
            }
        }
        throw new IllegalStateException("no method " + name);
    }

    /** Matches are of the clubs 0 and 1; the player 0 is lent, 1 under contract, 2 a youth, 3 nowhere. */
    private static TransferHall hall() {
        TransferHall x = new TransferHall();
        for (int i = 0; i < CLUBS; i++) {
            x.club(i / 2, 4, 5000);
        }
        x.player(7300, 0);
        x.player(7300, 0);
        x.player(6500, 0);
        x.player(7300, 1);
        x.sign(0, 0, 3, 1);
        x.sign(1, 1, 3, 1);
        x.enrol(2, 0);
        x.income(0, 70);
        x.offer(1, 0, 10, 2, 2, 3, 4);
        for (int i = 1; i < OFFERS; i++) {
            x.offer(i == 2 ? 2 : 0, 1, 11, 1, 2, 3, 4);
            x.answer(i, true);
        }
        x.file(1);
        x.file(2);
        x.link(1);
        x.lend(0, 1, 300, 1, 20);
        for (int i = 0; i < MATCHES; i++) {
            x.match(0, 1);
            x.appear(i, 1, 0);
        }
        return x;
    }

    private static int count(String kind) {
        return kind.equals("c") ? CLUBS : kind.equals("p") ? PLAYERS : kind.equals("o") ? OFFERS : kind.equals("m") ? MATCHES : -1;
    }

    private static List<Object> edges(String kind) {
        List<Object> list = new ArrayList<>();
        if (kind.equals("B")) {
            list.add(false);
            list.add(true);
        } else if (kind.startsWith("'")) {
            for (char letter : (kind.substring(1) + "aUx'" + (char) 0 + (char) 65535).toCharArray()) {
                list.add(letter);
            }
        } else {
            int least = kind.contains(":") ? Integer.parseInt(kind.split(":")[0]) : 0;
            int most = kind.contains(":") ? Integer.parseInt(kind.split(":")[1]) : Math.max(0, count(kind) - 1);
            for (int number : new int[] {least, most, least - 1, most + 1, Integer.MIN_VALUE, Integer.MAX_VALUE}) {
                list.add(number);
            }
        }
        return list;
    }

    private static boolean isThere(String kind, Object value) {
        return count(kind) < 0 || (int) value >= 0 && (int) value < count(kind);
    }

    private static boolean isInRange(String kind, Object value) {
        if (kind.startsWith("'")) {
            return kind.indexOf((char) value) > 0;
        }
        if (!kind.contains(":")) {
            return true;
        }
        return (int) value >= Integer.parseInt(kind.split(":")[0]) && (int) value <= Integer.parseInt(kind.split(":")[1]);
    }

    /** What an argument must be by another one. */
    private static boolean fit(String name, Object[] values) {
        switch (name) {
            case "setWindow": return (int) values[3] >= (int) values[2];
            case "match": return (int) values[0] != (int) values[1];
            case "appear": case "protest": return (int) values[1] < 2;
            default: return true;
        }
    }

    private static void sweep(String[] words, Method method) {
        int count = words.length - 1;
        TransferHall shared = hall();
        Object[] values = new Object[count];
        Set<String> done = new TreeSet<>();
        for (int i = 0; i < Math.max(1, count); i++) {
            for (int k = i; k < Math.max(1, count); k++) {
                for (int n = 0; n < count; n++) {
                    values[n] = edges(words[n + 1]).get(0);
                }
                for (Object one : count > 0 ? edges(words[i + 1]) : List.of((Object) 0)) {
                    for (Object other : k > i ? edges(words[k + 1]) : List.of((Object) 0)) {
                        if (count > 0) {
                            values[i] = one;
                        }
                        if (k > i) {
                            values[k] = other;
                        }
                        Object[] copy = values.clone();
                        if (done.add(text(method, copy))) {
                            one(words, method, copy, shared);
                        }
                    }
                }
            }
        }
    }

    private static String text(Method method, Object[] values) {
        StringBuilder text = new StringBuilder(method.getName());
        for (Object one : values) {
            text.append(' ').append(one instanceof Character ? "'" + (int) (char) one : one);
        }
        return text.toString();
    }

    private static void one(String[] words, Method method, Object[] values, TransferHall shared) {
        boolean isThere = true;
        boolean isInRange = true;
        for (int i = 0; i < values.length; i++) {
            isThere &= isThere(words[i + 1], values[i]);
            isInRange &= isInRange(words[i + 1], values[i]);
        }
        String text = text(method, values);
        if (!isThere) {
            Check.refused(text + ": no such thing", shared, IndexOutOfBoundsException.class, call(method, shared, values));
        } else if (!isInRange || !fit(words[0], values)) {
            Check.refused(text + ": out of range", shared, IllegalArgumentException.class, call(method, shared, values));
        } else {
            TransferHall own = hall();
            List<Object> before = Check.all(own);
            Check.due(text + ": is taken", "", () -> taken(method, call(method, own, values), own, before));
        }
    }

    /** A call with arguments that are there and in range may throw what it names for other reasons, and then changes nothing. */
    private static String taken(Method method, Callable<Object> call, TransferHall own, List<Object> before) throws Exception {
        try {
            call.call();
            return own.isSound() ? "" : "is not sound";
        } catch (IndexOutOfBoundsException | IllegalArgumentException e) {
            return "throws " + e;
        } catch (RuntimeException e) {
            for (Class<?> named : method.getExceptionTypes()) {
                if (named == e.getClass()) {
                    return before.equals(Check.all(own)) ? "" : "threw, and changed something";
                }
            }
            return "throws " + e + ", which it does not name";
        }
    }

    private static Callable<Object> call(Method method, TransferHall on, Object[] values) {
        return () -> {
            try {
                return method.invoke(on, values);
            } catch (InvocationTargetException e) {
                throw (Exception) e.getCause();
            }
        };
    }
}
