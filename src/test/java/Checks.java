import java.util.function.Supplier;
import java.util.function.ToLongFunction;

/** What the tests share: answers held against those that are due, and lands to begin with. */
abstract class Checks {
    static final Class<? extends RuntimeException> INDEX = IndexOutOfBoundsException.class;
    static final Class<? extends RuntimeException> ARGUMENT = IllegalArgumentException.class;
    static final Class<? extends RuntimeException> STATE = IllegalStateException.class;
    static final int NONE = Residentroll.NONE;
    static final int HIDDEN = Residentroll.HIDDEN;
    static final int UNBORN = Residentroll.UNBORN;
    static final int LIVING = Residentroll.LIVING;
    static final int DEAD = Residentroll.DEAD;
    static final int DOUBLE = Residentroll.DOUBLE;
    static final int BOND = Residentroll.BOND;
    static final int PARTING = Residentroll.PARTING;
    static final int ADOPTION = Residentroll.ADOPTION;
    static final int ALL = Residentroll.ALL;
    static final int VOTES = Residentroll.VOTES;
    static final int SCHOOL = Residentroll.SCHOOL;
    static final int TOWN = Residentroll.TOWN;
    static final int TODAY = 10000;
    static final int YEAR = 365;
    static final int IS = 0, IS_IN = 1, NAME = 2, PARTNER = 3, MOTHER = 4, AGE = 5, HOUSEHOLD = 6;
    static final int[] FAR_OFF = {Integer.MIN_VALUE, Integer.MIN_VALUE + 1, -65536, 65536, Integer.MAX_VALUE - 1, Integer.MAX_VALUE};

    static int checks = 0;
    static int wrong = 0;

    interface Call {
        long make();
    }

    static void due(long want, long got) {
        checks++;
        if (got != want) {
            fault("answered " + got + ", due is " + want);
        }
    }

    static void due(boolean want, boolean got) {
        due(want ? 1 : 0, got ? 1 : 0);
    }

    static void due(String want, String got) {
        checks++;
        if (!want.equals(got)) {
            fault("answered " + got + ", due is " + want);
        }
    }

    static void refused(Class<? extends RuntimeException> want, Call call) {
        due("throws " + want.getSimpleName(), answerOf(call));
    }

    static String answerOf(Call call) {
        try {
            return Long.toString(call.make());
        } catch (RuntimeException e) {
            return "throws " + e.getClass().getSimpleName();
        }
    }

    static void fault(String text) {
        wrong++;
        String place = "";
        for (StackTraceElement each : new Throwable().getStackTrace()) {
            if (place.isEmpty() && !each.getClassName().equals(Checks.class.getName())) {
                place = each.getClassName() + "." + each.getMethodName() + ", line " + each.getLineNumber();
            }
        }
        System.out.println(place + ": " + text);
    }

    /** As many PERSONS as wanted, each with its number as name and alone in a DWELLING, born on the days 0, 100, 200 and so on. */
    static Residentroll grown(int many) {
        Residentroll x = new Residentroll();
        for (int i = 0; i < many; i++) {
            x.birth(100 * i, NONE, i % 16, i);
        }
        return x;
    }

    /** One PERSON, and ACTS up to the 150th. */
    static void fillActs(Residentroll x, int told) {
        for (int i = told; i < 150; i++) {
            due(i, x.move(0, TODAY, 0));
        }
    }

    static Residentroll fullOfActs() {
        Residentroll x = grown(3);
        fillActs(x, 3);
        return x;
    }

    static Residentroll fullOfNumbers() {
        Residentroll x = grown(3);
        for (int given = 3; given < 60; given++) {
            x.renumber(2);
        }
        return x;
    }

    static Residentroll fullOfRolls() {
        Residentroll x = grown(3);
        for (int roll = 0; roll < 5; roll++) {
            x.roll(roll % 4, roll % 4);
        }
        return x;
    }

    static Residentroll onTheLastDay() {
        Residentroll x = grown(3);
        for (int i = 0; i < 4; i++) {
            x.pass(5000);
        }
        return x;
    }

    /** The call is refused, and the land is as one on which it was not made. */
    static void changesNothing(Supplier<Residentroll> land, Class<? extends RuntimeException> want, ToLongFunction<Residentroll> call) {
        Residentroll x = land.get();
        refused(want, () -> call.applyAsLong(x));
        due(allOf(land.get()), allOf(x));
    }

    /** What a land answers, at last to more that is told; it has made fewer than 160 calls before. */
    static String allOf(Residentroll x) {
        StringBuilder all = new StringBuilder();
        all.append(x.day());
        int persons = 0;
        for (; persons < 24 && isPerson(x, persons); persons++) {
            tellPerson(all, x, persons);
        }
        all.append("\npersons ").append(persons);
        for (int roll = 0; roll < 3; roll++) {
            tellRoll(all, x, roll, Math.min(persons, 4));
        }
        tellActs(all, x);
        tellMore(all, x);
        return all.toString();
    }

    private static boolean isPerson(Residentroll x, int person) {
        return !answerOf(() -> x.number(person)).startsWith("throws");
    }

    private static void tellPerson(StringBuilder all, Residentroll x, int person) {
        all.append("\nperson ").append(person);
        for (int what = IS; what <= (person < 4 ? HOUSEHOLD : IS_IN); what++) {
            all.append(' ').append(x.now(person, what));
        }
        all.append(' ').append(x.asOf(person, IS, x.day(), x.day()));
        boolean was = x.bar(person, true);
        x.bar(person, was);
        all.append(' ').append(was).append(' ').append(x.number(person)).append(' ').append(x.looks(person));
    }

    private static void tellRoll(StringBuilder all, Residentroll x, int roll, int persons) {
        all.append("\nroll ").append(roll).append(' ').append(answerOf(() -> x.owes(roll)));
        for (int i = 0; i < persons; i++) {
            int person = i;
            all.append(' ').append(answerOf(() -> x.holds(roll, person))).append(' ').append(answerOf(() -> x.holdsAnew(roll, person)));
        }
        String message = "";
        for (int i = 0; i < 9 && !message.startsWith("throws"); i++) {
            int place = i;
            message = answerOf(() -> x.message(roll, place));
            all.append(' ').append(message);
        }
    }

    private static void tellActs(StringBuilder all, Residentroll x) {
        String kind = "";
        for (int i = 0; i < 13 && !kind.startsWith("throws"); i++) {
            int act = i;
            kind = answerOf(() -> x.actOf(act, 0));
            all.append("\nact ").append(act).append(' ').append(kind).append(' ').append(answerOf(() -> x.actOf(act, 4)));
        }
    }

    private static void tellMore(StringBuilder all, Residentroll x) {
        all.append("\nmore ").append(answerOf(() -> x.strike(1)));
        all.append(' ').append(answerOf(() -> x.renumber(0)));
        all.append(' ').append(answerOf(() -> x.move(0, x.day(), 7)));
        all.append(' ').append(answerOf(() -> x.birth(x.day(), 0, 7, 7)));
        all.append(' ').append(answerOf(() -> x.roll(ALL, 0)));
        all.append(' ').append(answerOf(() -> x.deliver(0)));
        all.append(' ').append(answerOf(() -> x.pass(1)));
    }
}
