import java.lang.reflect.InvocationTargetException;
import java.lang.reflect.Method;
import java.util.ArrayList;
import java.util.Arrays;
import java.util.List;

/** All promises: long and short runs of calls on the class and on the model, answer by answer. */
public final class ModelTest {
    private static final int MOST_CALLS = 512;
    private static final int LONG_RUNS = 600;
    private static final int SHORT_RUNS = 4_000;
    private static final int SHORT_CALLS = 14;

    /** What a method's arguments are: Span, Amount's a and its k (s for seconds, n for nanos of one), Moment, ... */
    private static final String[] FACE = {
        "zero S", "days SAK", "hours SAK", "minutes SAK", "seconds SAK", "millis SAK", "nanos SAK", "secondsAnd SAKAK",
        "between SMM", "copy SS", "swap SS", "plusDays SAK", "plusHours SAK", "plusMinutes SAK", "plusSeconds SAK",
        "plusMillis SAK", "plusNanos SAK", "minusDays SAK", "minusHours SAK", "minusMinutes SAK", "minusSeconds SAK",
        "minusMillis SAK", "minusNanos SAK", "plus SS", "minus SS", "negate S", "abs S", "moment MHTTN",
        "secondOfDay M", "secondsOf S", "restOf S", "text S", "isZero S", "isNegative S", "total SW", "part SW",
        "compare SS", "isLike SS", "greater SS", "twins ", "post S", "take ", "clear ", "sort ", "fetch SE", "set ES",
        "entry E", "place S", "sum S", "steps ", "knock ", "house W", "isSound ", "digest ",
    };

    private static final Due due = new Due("ModelTest");

    private static long seed = 20_261_118L;

    /** The same numbers at each run, from 0 to one below the bound. */
    private static int next(int bound) {
        seed = seed * 6364136223846793005L + 1442695040888963407L;
        return (int) ((seed >>> 33) % bound);
    }

    private record Member(String name, String kinds, Method ofClass, Method ofModel) {
    }

    public static void main(String[] args) throws Exception {
        List<Member> members = new ArrayList<>();
        for (String line : FACE) {
            String name = line.substring(0, line.indexOf(' '));
            String kinds = line.substring(name.length() + 1);
            Class<?>[] types = new Class<?>[kinds.length()];
            Arrays.fill(types, int.class);
            members.add(new Member(name, kinds,
                    Spanledger.class.getMethod(name, types), Model.class.getMethod(name, types)));
        }
        due.answer("methods of the face", members.size(), 54);
        for (int run = 0; run < LONG_RUNS; run++) {
            longRun("long run " + run, members, run % 3);
        }
        for (int run = 0; run < SHORT_RUNS; run++) {
            shortRun("short run " + run, members, run % 3);
        }
        due.close();
    }

    private static void longRun(String told, List<Member> members, int mood) throws Exception {
        Spanledger x = new Spanledger();
        Model model = new Model();
        for (int i = 0; i < MOST_CALLS; i++) {
            call(told, members.get(next(members.size())), mood, x, model);
        }
    }

    /** After each call all that can be seen without a change is looked at. */
    private static void shortRun(String told, List<Member> members, int mood) throws Exception {
        Spanledger x = new Spanledger();
        Model model = new Model();
        for (int i = 0; i < SHORT_CALLS; i++) {
            call(told, members.get(next(members.size())), mood, x, model);
            due.answer(told + " entries", x.house(0), model.house(0));
            for (int at = 0; at < 6; at++) {
                due.answer(told + " span", x.text(at), model.text(at));
            }
            for (int which = 0; which < 4; which++) {
                due.answer(told + " moment", x.secondOfDay(which), model.secondOfDay(which));
            }
            for (int entry = 0; entry < model.house(0); entry++) {
                due.answer(told + " entry", x.entry(entry), model.entry(entry));
            }
            due.answer(told + " refusals", x.house(1), model.house(1));
            due.answer(told + " knocks", x.house(2), model.house(2));
            due.answer(told + " digest", x.digest(), model.digest());
        }
    }

    private static void call(String told, Member member, int mood, Spanledger x, Model model) throws Exception {
        boolean rare = member.name.equals("clear") && next(4) != 0;
        if (rare) {
            return;
        }
        Object[] arguments = new Object[member.kinds.length()];
        for (int i = 0; i < arguments.length; i++) {
            arguments[i] = argument(member.kinds.charAt(i), mood);
        }
        String call = told + ": " + member.name + Arrays.toString(arguments);
        due.answer(call, outcome(member.ofClass, x, arguments), outcome(member.ofModel, model, arguments));
    }

    private static Object outcome(Method method, Object on, Object[] arguments) throws Exception {
        try {
            return method.invoke(on, arguments);
        } catch (InvocationTargetException e) {
            return e.getCause().getClass();
        }
    }

    private static int argument(char kind, int mood) {
        switch (kind) {
            case 'S':
                return index(6);
            case 'M':
                return index(4);
            case 'E':
                return index(12);
            case 'W':
                return index(6);
            case 'H':
                return part(24);
            case 'T':
                return part(60);
            case 'N':
                return part(1_000_000_000);
            case 'A':
                return number(mood);
            default:
                return power(mood);
        }
    }

    private static int index(int count) {
        if (next(30) == 0) {
            int[] wrong = {-1, count, -2, count + 1, Integer.MIN_VALUE, Integer.MAX_VALUE};
            return wrong[next(wrong.length)];
        }
        return next(count);
    }

    private static int part(int count) {
        if (next(8) == 0) {
            return next(2) == 0 ? 0 : count - 1;
        }
        return next(40) == 0 ? -1 + next(2) * (count + 1) : next(count);
    }

    /** In the first mood small numbers, in the second great ones, in the third both. */
    private static int number(int mood) {
        int sign = next(2) == 0 ? 1 : -1;
        int choice = mood == 2 ? next(2) : mood;
        if (choice == 0) {
            return sign * next(200);
        }
        int[] edges = {
            4, 8, 9, 10, 2, 46, 47, 92, 93, 400000000, 800000000, 922337203, 922337204, 46296296, 92592592,
            111111111, 666666666, 999999999, 1000000000, Integer.MAX_VALUE,
        };
        return next(6) == 0 ? sign * next(Integer.MAX_VALUE) : sign * edges[next(edges.length)];
    }

    private static int power(int mood) {
        if (next(40) == 0) {
            return next(2) == 0 ? -1 : 19;
        }
        int choice = mood == 2 ? next(2) : mood;
        return choice == 0 ? next(4) : next(19);
    }
}
