import java.util.ArrayList;
import java.util.Arrays;
import java.util.Comparator;
import java.util.HashMap;
import java.util.HashSet;
import java.util.List;
import java.util.Map;
import java.util.Objects;
import java.util.Set;
import java.util.TreeSet;

/** Long rows of calls, each answer held against a second, slow reading of the document that keeps nothing found. */
public final class ModelTest {
    private static final int RUNS = 200;
    private static final int CALLS = 512;
    private static final int NONE = -1;
    private static final int HIDDEN = -2;

    public static void main(String[] args) {
        Map<String, Integer> answers = new HashMap<>();
        for (int run = 0; run < RUNS; run++) {
            if (!runOnce(run, answers)) {
                System.exit(1);
            }
        }
        // A call that was never answered was not tried.
        for (String name : CallMaker.NAMES) {
            if (!answers.containsKey(name + " answers")) {
                System.out.println("no run has an answer of " + name);
                System.exit(1);
            }
        }
        System.out.println("all answers are as the model's: " + new TreeSet<>(answers.entrySet().stream().map(Object::toString).toList()));
    }

    private static boolean runOnce(int run, Map<String, Integer> answers) {
        Residentroll real = new Residentroll();
        Model model = new Model();
        CallMaker maker = new CallMaker(run);
        List<String> told = new ArrayList<>();
        for (int i = 0; i < CALLS; i++) {
            Call call = maker.next(model);
            String due = answer(() -> model.call(call));
            String got = answer(() -> callReal(real, call));
            told.add(call + " -> " + got);
            String shape = call.name + (due.startsWith("throws") ? " " + due : " answers");
            answers.merge(shape, 1, Integer::sum);
            if (!due.equals(got)) {
                told.forEach(System.out::println);
                System.out.println("run " + run + ", call " + i + ": due is " + due);
                return false;
            }
        }
        return true;
    }

    private interface Asked {
        long ask();
    }

    private static String answer(Asked asked) {
        try {
            return Long.toString(asked.ask());
        } catch (RuntimeException e) {
            return "throws " + e.getClass().getSimpleName();
        }
    }

    private static long callReal(Residentroll x, Call c) {
        int[] a = c.arguments;
        switch (c.name) {
            case "pass": return x.pass(a[0]);
            case "birth": return x.birth(a[0], a[1], a[2], a[3]);
            case "move": return x.move(a[0], a[1], a[2]);
            case "naming": return x.naming(a[0], a[1], a[2]);
            case "tie": return x.tie(a[0], a[1], a[2], a[3]);
            case "death": return x.death(a[0], a[1]);
            case "join": return x.join(a[0], a[1]);
            case "strike": return x.strike(a[0]);
            case "day": return x.day();
            case "actOf": return x.actOf(a[0], a[1]);
            case "asOf": return x.asOf(a[0], a[1], a[2], a[3]);
            case "now": return x.now(a[0], a[1]);
            case "households": return x.households(a[0], a[1], a[2]);
            case "money": return x.money(a[0], a[1], a[2], a[3]);
            case "changed": return x.changed(a[0], a[1], a[2]);
            case "origin": return x.origin(a[0], a[1]);
            case "likeness": return x.likeness(a[0], a[1]);
            case "doubleOf": return x.doubleOf(a[0]);
            case "renumber": return x.renumber(a[0]);
            case "number": return x.number(a[0]);
            case "bearer": return x.bearer(a[0]);
            case "roll": return x.roll(a[0], a[1]);
            case "deliver": return x.deliver(a[0]);
            case "owes": return x.owes(a[0]);
            case "message": return x.message(a[0], a[1]);
            case "holds": return x.holds(a[0], a[1]);
            case "holdsAnew": return x.holdsAnew(a[0], a[1]);
            case "bar": return x.bar(a[0], a[1] != 0) ? 1 : 0;
            case "look": return x.look(a[0], a[1]);
            case "looks": return x.looks(a[0]);
            default: throw new AssertionError(c.name);
        }
    }

    private static final class Call {
        final String name;
        final int[] arguments;

        Call(String name, int... arguments) {
            this.name = name;
            this.arguments = arguments;
        }

        @Override
        public String toString() {
            return name + Arrays.toString(arguments);
        }
    }

    /** Makes calls from a seed, most of them fit, some with arguments at or beyond an edge. */
    private static final class CallMaker {
        static final String[] NAMES = {
            "pass", "birth", "move", "naming", "tie", "death", "join", "strike", "day", "actOf", "asOf", "now", "households", "money", "changed",
            "origin", "likeness", "doubleOf", "renumber", "number", "bearer", "roll", "deliver", "owes", "message", "holds", "holdsAnew", "bar", "look", "looks",
        };
        private static final int[] WILD = {-1, -2, 0, 1, 4, 5, 7, 15, 16, 23, 24, 60, 61, 149, 150, 999, 1000, 5000, 5001, 10000, 30000, 30001, 99999, 100000, Integer.MAX_VALUE, Integer.MIN_VALUE};
        private long seed;
        private final int wildness;
        private final int fewDwellings;
        private final int fewNames;
        private final int spread;
        private final int tellers;
        private final boolean givesMany;

        CallMaker(int run) {
            seed = 88172645463325252L + 1000003L * run;
            wildness = run % 3 == 0 ? 12 : 60;
            fewDwellings = 1 + below(16);
            fewNames = 1 + below(4);
            spread = run % 2 == 0 ? 60 : 9000;
            tellers = 20 + below(60);
            givesMany = run % 10 == 9;
        }

        int below(int bound) {
            seed ^= seed << 13;
            seed ^= seed >>> 7;
            seed ^= seed << 17;
            return (int) Long.remainderUnsigned(seed, bound);
        }

        private int perhapsWild(int fit) {
            return below(wildness) == 0 ? WILD[below(WILD.length)] : fit;
        }

        private int person(Model m) {
            return perhapsWild(m.persons == 0 ? 0 : below(m.persons));
        }

        private int dayFor(Model m) {
            if (below(8) == 0) {
                return perhapsWild(m.today + below(3) - 1);
            }
            return perhapsWild(Math.max(0, m.today - below(spread)));
        }

        private int dwelling() {
            return perhapsWild(below(fewDwellings));
        }

        Call next(Model m) {
            if (m.persons < 3) {
                return birth(m);
            }
            return below(100) < tellers && m.acts.size() < 150 || below(40) == 0 ? telling(m) : asking(m);
        }

        private Call birth(Model m) {
            return new Call("birth", dayFor(m), below(3) == 0 ? NONE : perhapsWild(m.persons == 0 ? NONE : below(m.persons)), dwelling(), perhapsWild(below(fewNames)));
        }

        private Call telling(Model m) {
            int which = below(24);
            if (which < 6) {
                return birth(m);
            } else if (which < 9) {
                return new Call("move", person(m), dayFor(m), dwelling());
            } else if (which < 11) {
                return new Call("naming", person(m), dayFor(m), perhapsWild(below(fewNames)));
            } else if (which < 17) {
                return new Call("tie", perhapsWild(new int[] {3, 3, 4, 6}[below(4)]), person(m), person(m), dayFor(m));
            } else if (which < 18) {
                return new Call("death", person(m), dayFor(m));
            } else if (which < 20) {
                return new Call("join", person(m), person(m));
            } else if (which < 22) {
                return new Call("strike", perhapsWild(below(m.acts.size() + 1)));
            }
            return new Call("pass", perhapsWild(below(4) == 0 ? 1 + below(3000) : 1 + below(20)));
        }

        private Call asking(Model m) {
            if (givesMany && below(2) == 0) {
                return new Call("renumber", person(m));
            }
            String name = NAMES[8 + below(NAMES.length - 8)];
            int roll = perhapsWild(below(m.rolls.size() + 1));
            switch (name) {
                case "day": return new Call(name);
                case "actOf": return new Call(name, perhapsWild(below(m.acts.size() + 1)), perhapsWild(below(6)));
                case "asOf": return new Call(name, person(m), perhapsWild(below(7)), dayFor(m), dayFor(m));
                case "now": return new Call(name, person(m), perhapsWild(below(7)));
                case "households": return new Call(name, dwelling(), dayFor(m), dayFor(m));
                case "money": return new Call(name, perhapsWild(below(4)), dayFor(m), perhapsWild(1 + below(60)), dayFor(m));
                case "changed": return new Call(name, dayFor(m), dayFor(m), dayFor(m));
                case "origin": return new Call(name, person(m), below(5) == 0 ? NONE : person(m));
                case "likeness": return new Call(name, person(m), person(m));
                case "bearer": return new Call(name, below(3) == 0 ? perhapsWild(10000 + below(900)) : m.someNumber(below(90)));
                case "roll": return new Call(name, perhapsWild(below(4)), perhapsWild(below(4)));
                case "deliver": case "owes": return new Call(name, roll);
                case "message": return new Call(name, roll, perhapsWild(below(1 + m.messagesOf(roll))));
                case "holds": case "holdsAnew": return new Call(name, roll, person(m));
                case "bar": return new Call(name, person(m), below(2));
                case "look": return new Call(name, perhapsWild(below(4)), person(m));
                default: return new Call(name, person(m));
            }
        }
    }

    private record Told(int number, int kind, int told, int so, int person, int other, int dwelling, int name) { }

    private static final class One {
        int is = 0;
        int dwelling = NONE;
        int name = NONE;
        Integer partner = null;
        Integer mother = null;
        Integer firstMother = null;
        boolean adopted = false;
        int born = NONE;
    }

    private static final class Receiver {
        int kind;
        int office;
        List<Integer> messages = new ArrayList<>();
    }

    private static final class Model {
        int today = 10000;
        int persons = 0;
        final List<Told> acts = new ArrayList<>();
        final List<Integer> numbers = new ArrayList<>();
        final List<Integer> bearers = new ArrayList<>();
        final List<Receiver> rolls = new ArrayList<>();
        final Set<Integer> barred = new HashSet<>();
        final List<Integer> looked = new ArrayList<>();

        int someNumber(int place) {
            return place < numbers.size() ? numbers.get(place) : 10017 + place;
        }

        int messagesOf(int roll) {
            return roll >= 0 && roll < rolls.size() ? rolls.get(roll).messages.size() : 0;
        }

        long call(Call c) {
            int[] a = c.arguments;
            switch (c.name) {
                case "pass": return pass(a[0]);
                case "birth": return birth(a[0], a[1], a[2], a[3]);
                case "move":
                    index(isPerson(a[0]) && isIn(a[2], 0, 15));
                    fit(isDay(a[1]));
                    return tell(1, a[1], a[0], NONE, a[2], NONE);
                case "naming":
                    index(isPerson(a[0]));
                    fit(isDay(a[1]) && isIn(a[2], 0, 999));
                    return tell(2, a[1], a[0], NONE, NONE, a[2]);
                case "tie":
                    index(isPerson(a[1]) && isPerson(a[2]));
                    fit(List.of(3, 4, 6).contains(a[0]) && isDay(a[3]) && a[1] != a[2]);
                    return tell(a[0], a[3], a[1], a[2], NONE, NONE);
                case "death":
                    index(isPerson(a[0]));
                    fit(isDay(a[1]));
                    return tell(5, a[1], a[0], NONE, NONE, NONE);
                case "join":
                    index(isPerson(a[0]) && isPerson(a[1]));
                    fit(a[1] > a[0]);
                    return tell(7, NONE, a[0], a[1], NONE, NONE);
                case "strike":
                    index(isIn(a[0], 0, acts.size() - 1));
                    state(acts.get(a[0]).kind != 8 && strikingOf(a[0], today) == NONE);
                    return tell(8, NONE, NONE, a[0], NONE, NONE);
                case "day": return today;
                case "actOf": return actOf(a[0], a[1]);
                case "asOf":
                    index(isPerson(a[0]));
                    fit(isIn(a[1], 0, 6) && isDay(a[2]) && isDay(a[3]));
                    return tellOf(a[0], a[1], a[2], a[3]);
                case "now":
                    index(isPerson(a[0]));
                    fit(isIn(a[1], 0, 6));
                    return tellOf(a[0], a[1], today, today);
                case "households":
                    index(isIn(a[0], 0, 15));
                    fit(isDay(a[1]) && isDay(a[2]));
                    return households(a[0], a[1], a[2]);
                case "money": return money(a[0], a[1], a[2], a[3]);
                case "changed": return changed(a[0], a[1], a[2]);
                case "origin":
                    index(isPerson(a[0]) && (a[1] == NONE || isPerson(a[1])));
                    return origin(a[0], a[1]);
                case "likeness":
                    index(isPerson(a[0]) && isPerson(a[1]));
                    fit(a[0] != a[1]);
                    return likeness(a[0], a[1], history(today, today));
                case "doubleOf": return doubleOf(a[0]);
                default: return callRest(c.name, a);
            }
        }

        long callRest(String name, int[] a) {
            switch (name) {
                case "renumber":
                    index(isPerson(a[0]));
                    state(numbers.size() < 60);
                    return give(a[0]);
                case "number":
                    index(isPerson(a[0]));
                    return numbers.get(bearers.lastIndexOf(a[0]));
                case "bearer":
                    fit(isIn(a[0], 10000, 99999) && a[0] / 10 >= 1001 && Objects.equals(numberOf(a[0] / 10), a[0]));
                    return numbers.contains(a[0]) ? bearers.get(numbers.indexOf(a[0])) : NONE;
                case "roll":
                    index(isIn(a[1], 0, 3));
                    fit(isIn(a[0], 0, 3));
                    state(rolls.size() < 5);
                    Receiver begun = new Receiver();
                    begun.kind = a[0];
                    begun.office = a[1];
                    rolls.add(begun);
                    return rolls.size() - 1;
                case "deliver":
                    index(isRoll(a[0]));
                    List<Integer> sent = due(rolls.get(a[0]));
                    rolls.get(a[0]).messages.addAll(sent);
                    return sent.size();
                case "owes":
                    index(isRoll(a[0]));
                    return due(rolls.get(a[0])).size();
                case "message":
                    index(isRoll(a[0]) && isIn(a[1], 0, rolls.get(a[0]).messages.size() - 1));
                    return rolls.get(a[0]).messages.get(a[1]);
                case "holds": case "holdsAnew":
                    index(isRoll(a[0]) && isPerson(a[1]));
                    return heldBy(rolls.get(a[0]), a[1]);
                case "bar":
                    index(isPerson(a[0]));
                    boolean was = a[1] != 0 ? !barred.add(a[0]) : barred.remove(a[0]);
                    return was ? 1 : 0;
                case "look":
                    index(isPerson(a[1]));
                    fit(isIn(a[0], 0, 3));
                    looked.add(a[1]);
                    return barred.contains(a[1]) && a[0] != 0 ? HIDDEN : tellOf(a[1], 1, today, today);
                case "looks":
                    index(isPerson(a[0]));
                    return looked.stream().filter(each -> each == a[0]).count();
                default: throw new AssertionError(name);
            }
        }

        static void index(boolean is) {
            if (!is) {
                throw new IndexOutOfBoundsException();
            }
        }

        static void fit(boolean is) {
            if (!is) {
                throw new IllegalArgumentException();
            }
        }

        static void state(boolean is) {
            if (!is) {
                throw new IllegalStateException();
            }
        }

        static boolean isIn(long value, long least, long most) {
            return least <= value && value <= most;
        }

        boolean isPerson(int person) {
            return isIn(person, 0, persons - 1);
        }

        boolean isDay(int asks) {
            return isIn(asks, 0, today);
        }

        boolean isRoll(int roll) {
            return isIn(roll, 0, rolls.size() - 1);
        }

        long pass(int days) {
            fit(isIn(days, 1, 5000));
            state(today + days <= 30000);
            today += days;
            return today;
        }

        long birth(int so, int mother, int dwelling, int name) {
            index((mother == NONE || isPerson(mother)) && isIn(dwelling, 0, 15));
            fit(isDay(so) && isIn(name, 0, 999));
            state(persons < 24 && acts.size() < 150 && numbers.size() < 60);
            tell(0, so, persons, mother, dwelling, name);
            give(persons);
            persons++;
            return persons - 1;
        }

        long tell(int kind, int so, int person, int other, int dwelling, int name) {
            state(acts.size() < 150);
            acts.add(new Told(acts.size(), kind, today, so, person, other, dwelling, name));
            return acts.size() - 1;
        }

        int strikingOf(int act, int k) {
            return acts.stream().filter(each -> each.kind == 8 && each.other == act && each.told <= k).mapToInt(Told::number).findFirst().orElse(NONE);
        }

        long actOf(int act, int what) {
            index(isIn(act, 0, acts.size() - 1));
            fit(isIn(what, 0, 4));
            Told told = acts.get(act);
            return new int[] {told.kind, told.told, told.so, told.person, strikingOf(act, today)}[what];
        }

        List<Told> knownOn(int k) {
            return acts.stream().filter(each -> each.told <= k && each.kind != 8 && strikingOf(each.number, k) == NONE).toList();
        }

        int meantBy(int person, List<Told> known) {
            int meant = person;
            boolean follows = person != NONE;
            while (follows) {
                follows = false;
                for (int i = known.size() - 1; i >= 0 && !follows; i--) {
                    if (known.get(i).kind == 7 && known.get(i).other == meant) {
                        meant = known.get(i).person;
                        follows = true;
                    }
                }
            }
            return meant;
        }

        One[] history(int s, int k) {
            One[] all = new One[24];
            for (int i = 0; i < all.length; i++) {
                all[i] = new One();
            }
            List<Told> known = knownOn(k);
            for (Told each : known) {
                if (each.kind == 7) {
                    all[each.other].is = 3;
                }
            }
            List<Told> dated = new ArrayList<>(known.stream().filter(each -> each.kind != 7 && each.so <= s).toList());
            dated.sort(Comparator.comparingInt(Told::so).thenComparingInt(Told::number));
            for (Told each : dated) {
                count(each, meantBy(each.person, known), meantBy(each.other, known), all);
            }
            return all;
        }

        void count(Told act, int p, int o, One[] all) {
            One one = all[p];
            One two = o == NONE ? null : all[o];
            boolean both = two != null && one != two && one.is == 1 && two.is == 1;
            if (act.kind == 0 && one.is == 0) {
                one.mother = two != null && two.is == 1 && two != one ? o : null;
                one.firstMother = one.mother;
                one.is = 1;
                one.dwelling = act.dwelling;
                one.name = act.name;
                one.born = act.so;
            } else if (act.kind == 1 && one.is == 1) {
                one.dwelling = act.dwelling;
            } else if (act.kind == 2 && one.is == 1) {
                one.name = act.name;
            } else if (act.kind == 3 && both && one.partner == null && two.partner == null) {
                one.partner = o;
                two.partner = p;
            } else if (act.kind == 4 && one.partner != null && one.partner == o) {
                one.partner = null;
                two.partner = null;
            } else if (act.kind == 5 && one.is == 1) {
                one.is = 2;
                one.dwelling = NONE;
                if (one.partner != null) {
                    all[one.partner].partner = null;
                }
                one.partner = null;
            } else if (act.kind == 6 && both) {
                one.mother = o;
                one.adopted = true;
            }
        }

        static int orNone(Integer person) {
            return person == null ? NONE : person;
        }

        int tellOf(int person, int what, int s, int k) {
            One[] all = history(s, k);
            One one = all[person];
            if (what == 6) {
                return one.is == 1 ? new TreeSet<>(householdOf(person, all, s)).first() : NONE;
            }
            int age = one.is == 1 ? (s - one.born) / 365 : NONE;
            return new int[] {one.is, one.dwelling, one.name, orNone(one.partner), orNone(one.mother), age}[what];
        }

        static boolean areBound(int a, int b, One[] all, int s) {
            if (a == b || all[a].is != 1 || all[b].is != 1 || all[a].dwelling != all[b].dwelling) {
                return false;
            }
            return Objects.equals(all[a].partner, b) || isYoungOf(a, b, all, s) || isYoungOf(b, a, all, s);
        }

        static boolean isYoungOf(int child, int mother, One[] all, int s) {
            return Objects.equals(all[child].mother, mother) && (s - all[child].born) / 365 < 18 && all[child].partner == null;
        }

        static Set<Integer> householdOf(int person, One[] all, int s) {
            Set<Integer> found = new HashSet<>(Set.of(person));
            List<Integer> open = new ArrayList<>(List.of(person));
            while (!open.isEmpty()) {
                int from = open.remove(open.size() - 1);
                for (int to = 0; to < all.length; to++) {
                    if (areBound(from, to, all, s) && found.add(to)) {
                        open.add(to);
                    }
                }
            }
            return found;
        }

        long households(int dwelling, int s, int k) {
            One[] all = history(s, k);
            Set<Set<Integer>> found = new HashSet<>();
            for (int person = 0; person < all.length; person++) {
                if (all[person].is == 1 && all[person].dwelling == dwelling) {
                    found.add(householdOf(person, all, s));
                }
            }
            return found.size();
        }

        long money(int office, int from, int many, int k) {
            index(isIn(office, 0, 3));
            fit(isDay(from) && isIn(many, 1, 60) && (long) from + many - 1 <= today && isDay(k));
            long sum = 0;
            for (int day = from; day < from + many; day++) {
                sum += Arrays.stream(history(day, k)).filter(each -> each.is == 1 && each.dwelling / 4 == office).count();
            }
            return sum;
        }

        long changed(int s, int k, int later) {
            fit(isDay(s) && isDay(k) && isDay(later));
            long many = 0;
            for (int person = 0; person < persons; person++) {
                boolean differs = false;
                for (int what = 0; what <= 4; what++) {
                    differs |= tellOf(person, what, s, k) != tellOf(person, what, s, later);
                }
                many += differs ? 1 : 0;
            }
            return many;
        }

        long origin(int person, int asker) {
            One one = history(today, today)[person];
            if (one.is == 0 || one.is == 3) {
                return NONE;
            }
            int asks = meantBy(asker, knownOn(today));
            boolean may = asks != NONE && (asks == person || Objects.equals(one.mother, asks));
            return one.adopted && !may ? HIDDEN : orNone(one.firstMother);
        }

        long likeness(int person, int other, One[] all) {
            One one = all[person];
            One two = all[other];
            if (one.is % 3 == 0 || two.is % 3 == 0) {
                return 0;
            }
            int off = one.born > two.born ? one.born - two.born : two.born - one.born;
            return (off == 0 ? 5 : off < 32 ? 2 : 0)
                + (one.name == two.name ? 3 : 0)
                + (one.is == 1 && two.is == 1 && one.dwelling == two.dwelling ? 2 : 0);
        }

        long doubleOf(int person) {
            index(isPerson(person));
            One[] all = history(today, today);
            for (int other = 0; other < persons; other++) {
                if (other != person && likeness(person, other, all) > 7) {
                    return other;
                }
            }
            return NONE;
        }

        static Integer numberOf(int serial) {
            int check = 0;
            String digits = Integer.toString(serial);
            for (int i = 0; i < 4; i++) {
                check += (i + 2) * (digits.charAt(i) - '0');
            }
            return check % 11 == 10 ? null : Integer.valueOf(10 * serial + check % 11);
        }

        int give(int person) {
            int serial = numbers.isEmpty() ? 1001 : numbers.get(numbers.size() - 1) / 10 + 1;
            while (numberOf(serial) == null) {
                serial++;
            }
            numbers.add(numberOf(serial));
            bearers.add(person);
            return numberOf(serial);
        }

        int heldBy(Receiver roll, int person) {
            int held = NONE;
            for (int message : roll.messages) {
                if (message / 1000 == person) {
                    held = message % 10 == 2 ? NONE : message / 10 % 100;
                }
            }
            return held;
        }

        List<Integer> due(Receiver roll) {
            One[] all = history(today, today);
            List<Integer> due = new ArrayList<>();
            for (int person = 0; person < persons; person++) {
                One one = all[person];
                int age = (today - one.born) / 365;
                boolean is = one.is == 1;
                if (roll.kind == 1) {
                    is &= age >= 18;
                } else if (roll.kind == 2) {
                    is &= age >= 6 && age <= 15;
                } else if (roll.kind == 3) {
                    is &= 4 * roll.office <= one.dwelling && one.dwelling <= 4 * roll.office + 3;
                }
                int held = heldBy(roll, person);
                if (is && held == NONE) {
                    due.add(1000 * person + 10 * one.dwelling + 1);
                } else if (!is && held != NONE) {
                    due.add(1000 * person + 2);
                } else if (is && held != one.dwelling) {
                    due.add(1000 * person + 10 * one.dwelling + 3);
                }
            }
            return due;
        }
    }
}
