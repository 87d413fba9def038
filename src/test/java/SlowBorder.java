import java.util.ArrayDeque;
import java.util.ArrayList;
import java.util.Arrays;
import java.util.Deque;
import java.util.List;
import java.util.TreeSet;

/**
 * The document once more, in other ways and slowly, for OracleTest: every thought is a copy of all,
 * texts stay strings and are split at their weakest sign, faults are found by a stack of what is
 * open. (Voices go much as in RopeBorder; VoicesTest has them as Java's own classes.)
 */
public final class SlowBorder {
    private static final class Refusal extends RuntimeException {
        private static final long serialVersionUID = 1L;
        final int k;

        Refusal(int k) {
            super(null, null, false, false);
            this.k = k;
        }
    }

    private interface Act {
        int answer();
    }

    private static final class Person implements Cloneable {
        int kind, m, skill, load, place, state, jumps;

        @Override
        public Person clone() {
            Person p = new Person();
            p.kind = kind;
            p.m = m;
            p.skill = skill;
            p.load = load;
            p.place = place;
            p.state = state;
            p.jumps = jumps;
            return p;
        }
    }

    private static final class All {
        int[] wear = new int[4];
        boolean[] down = {true, false, false, false};
        int beat;
        List<int[]> turners = new ArrayList<>();
        int turns;
        List<Person> people = new ArrayList<>();
        TreeSet<Integer> going = new TreeSet<>();
        String[] texts = {null, null};
        String tape = "";
        int z = 1;
        List<Integer> waiting = new ArrayList<>();

        All copy() {
            All a = new All();
            a.wear = wear.clone();
            a.down = down.clone();
            a.beat = beat;
            for (int[] t : turners) {
                a.turners.add(t.clone());
            }
            a.turns = turns;
            for (Person p : people) {
                a.people.add(p.clone());
            }
            a.going = new TreeSet<>(going);
            a.texts = texts.clone();
            a.tape = tape;
            a.z = z;
            a.waiting = new ArrayList<>(waiting);
            return a;
        }

        int gives(int use, int a, int b, int c) {
            String standing = use == 0 ? "1+l/20" : "w<100*(k+1)";
            String text = texts[use] == null ? standing : texts[use];
            int v = worked(text, use == 0 ? "klp" : "kwb", a, b, c);
            int least = use == 0 ? 1 : 0;
            int most = use == 0 ? 9 : 1;
            return v < least ? least : v > most ? most : v;
        }

        int needs(Person p) {
            int v = gives(0, p.skill, p.load, down.length);
            return needsAs(p, p.kind, v);
        }

        private static int needsAs(Person p, int kind, int v) {
            switch (kind) {
                case 0: return v;
                case 1: return v == 1 ? 1 : v - 1;
                case 2: return v + p.m % 3;
                case 3: return 1;
                case 4: return needsAs(p, 1, v) + 2;
                case 5: return needsAs(p, 2, v) * 2;
                default: return needsAs(p, 3, v) + 2;
            }
        }

        int wears(Person p) {
            int[] w = {1, 0, 1 + p.load / 10, 1, p.m, 1 + p.load / 10, 2};
            return w[p.kind];
        }

        boolean stands() {
            return turners.isEmpty() || turners.get(turns)[1] >= turners.get(turns)[0];
        }

        void oneBeat() {
            if (stands()) {
                for (int i = 0; i < people.size(); i++) {
                    Person p = people.get(i);
                    if (p.state == 1 || p.state == 0 && going.contains(i)) {
                        p.state = 2;
                    }
                }
                beat++;
                return;
            }
            for (int i = 0; i < turners.size(); i++) {
                int[] t = turners.get(i);
                t[1] += i == turns ? 1 : -1;
                t[1] = t[1] < 0 ? 0 : t[1] > 99 ? 99 : t[1];
            }
            int b = beat % down.length;
            for (int i = 0; i < people.size(); i++) {
                Person p = people.get(i);
                switch (p.state) {
                    case 0:
                        boolean free = people.stream().noneMatch(q -> q.state == 1 && q.place == p.place);
                        if (going.contains(i) && !down[b] && free) {
                            p.state = 1;
                            p.jumps = needs(p);
                        }
                        break;
                    case 1:
                        if (!down[b]) {
                            p.state = p.jumps == 0 ? 2 : 1;
                        } else if (gives(1, p.skill, wear[p.place], b) == 0) {
                            p.state = 3;
                        } else {
                            p.jumps = p.jumps == 0 ? 0 : p.jumps - 1;
                            wear[p.place] = Math.min(999, wear[p.place] + wears(p));
                        }
                        break;
                    default:
                        break;
                }
            }
            beat++;
        }

        All behind(int n) {
            All a = copy();
            for (int i = 0; i < n; i++) {
                a.oneBeat();
            }
            return a;
        }

        int set(int state) {
            int set = 0;
            for (int i = people.size() - 1; i >= 0; i--) {
                set = 2 * set + (people.get(i).state == state ? 1 : 0);
            }
            return set;
        }
    }

    static int worked(String s, String names, int a, int b, int c) {
        String[] levels = {"|", "&", "<=>", "+-", "*/%"};
        for (String level : levels) {
            int open = 0;
            for (int i = s.length() - 1; i > 0; i--) {
                char sign = s.charAt(i);
                open += sign == ')' ? 1 : sign == '(' ? -1 : 0;
                if (open == 0 && level.indexOf(sign) >= 0) {
                    return joined(sign, worked(s.substring(0, i), names, a, b, c),
                        worked(s.substring(i + 1), names, a, b, c));
                }
            }
        }
        char first = s.charAt(0);
        if (first == '!') {
            return worked(s.substring(1), names, a, b, c) == 0 ? 1 : 0;
        }
        if (first == '(') {
            return worked(s.substring(1, s.length() - 1), names, a, b, c);
        }
        int name = names.indexOf(first);
        return name < 0 ? Integer.parseInt(s) : name == 0 ? a : name == 1 ? b : c;
    }

    private static int joined(char sign, int x, int y) {
        long p = x;
        long q = y;
        boolean t = x != 0;
        boolean u = y != 0;
        switch (sign) {
            case '|': return t || u ? 1 : 0;
            case '&': return t && u ? 1 : 0;
            case '<': return p < q ? 1 : 0;
            case '=': return p == q ? 1 : 0;
            case '>': return p > q ? 1 : 0;
            case '+': return (int) (p + q);
            case '-': return (int) (p - q);
            case '*': return (int) (p * q);
            case '/': return u ? (int) (p / q) : 0;
            default: return u ? (int) (p % q) : 0;
        }
    }

    /** -1, or the fault: by a stack of what is open, each ( with whether its B was compared. */
    static int fault(String s, String names) {
        Deque<Character> open = new ArrayDeque<>();
        boolean wantsUnit = true;
        boolean compared = false;
        int digits = 0;
        for (int i = 0; i < s.length(); i++) {
            char sign = s.charAt(i);
            boolean isDigit = sign >= '0' && sign <= '9';
            if (!wantsUnit && isDigit && digits > 0 && digits < 4) {
                digits++;
            } else if (wantsUnit && (isDigit || names.indexOf(sign) >= 0)) {
                digits = isDigit ? 1 : 0;
                wantsUnit = false;
                closeNots(open);
            } else if (wantsUnit && (sign == '!' || sign == '(') && open.size() < 5) {
                open.push(sign == '!' ? '!' : compared ? 'c' : '(');
                compared = sign == '(' ? false : compared;
            } else if (!wantsUnit && "+-*/%".indexOf(sign) >= 0) {
                wantsUnit = true;
            } else if (!wantsUnit && "<=>".indexOf(sign) >= 0 && !compared) {
                compared = true;
                wantsUnit = true;
            } else if (!wantsUnit && (sign == '&' || sign == '|')) {
                compared = false;
                wantsUnit = true;
            } else if (!wantsUnit && sign == ')' && !open.isEmpty()) {
                compared = open.pop() == 'c';
                digits = 0;
                closeNots(open);
            } else {
                return i;
            }
        }
        return wantsUnit || !open.isEmpty() ? s.length() : -1;
    }

    private static void closeNots(Deque<Character> open) {
        while (!open.isEmpty() && open.peek() == '!') {
            open.pop();
        }
    }

    private All now = new All();
    private All image;
    private int images;
    private int[] trace = {};
    private final int[] bits = new int[4];
    private final int[][] sheets = new int[4][];
    private final int[] errors = new int[6];

    private int told(Act act) {
        try {
            return act.answer();
        } catch (Refusal r) {
            errors[r.k]++;
            return -1000000000 - r.k;
        }
    }

    private static void ask(boolean is, int k) {
        if (!is) {
            throw new Refusal(k);
        }
    }

    private static boolean in(int v, int least, int most) {
        return least <= v && v <= most;
    }

    private Person person(int i) {
        ask(in(i, 0, now.people.size() - 1), 1);
        return now.people.get(i);
    }

    private void askSet(int set, int size) {
        ask(in(set, 0, (1 << size) - 1), 1);
    }

    private static TreeSet<Integer> members(int set) {
        TreeSet<Integer> all = new TreeSet<>();
        for (int i = 0; i < 31; i++) {
            if ((set >> i) % 2 == 1) {
                all.add(i);
            }
        }
        return all;
    }

    private static int number(Iterable<Integer> members) {
        int set = 0;
        for (int i : members) {
            set += 1 << i;
        }
        return set;
    }

    public int rope(int n) {
        return told(() -> {
            ask(in(n, 2, 8), 1);
            ask(now.people.isEmpty(), 3);
            int was = now.wear.length;
            now.wear = new int[n];
            return was;
        });
    }

    public int rhyme(int p, int down) {
        return told(() -> {
            ask(in(p, 1, 16), 1);
            askSet(down, p);
            int was = now.down.length;
            now.down = new boolean[p];
            for (int i : members(down)) {
                now.down[i] = true;
            }
            return was;
        });
    }

    public int turner(int strength) {
        return told(() -> {
            ask(in(strength, 1, 99), 1);
            ask(now.turners.size() < 4, 4);
            now.turners.add(new int[] {strength, 0});
            return now.turners.size() - 1;
        });
    }

    public int ofTurner(int turner, int what) {
        return told(() -> {
            ask(in(turner, 0, now.turners.size() - 1) && in(what, 0, 2), 1);
            return what < 2 ? now.turners.get(turner)[what] : turner == now.turns ? 1 : 0;
        });
    }

    public int relieve(int turner) {
        return told(() -> {
            ask(in(turner, 0, now.turners.size() - 1), 1);
            int was = now.turns;
            now.turns = turner;
            return was;
        });
    }

    public int crosser(int km, int skill, int place) {
        return told(() -> {
            ask(in(km, 0, 69) && in(skill, 0, 9) && in(place, 0, now.wear.length - 1), 1);
            ask(now.people.size() < 8, 4);
            Person p = new Person();
            p.kind = km / 10;
            p.m = km % 10;
            p.skill = skill;
            p.place = place;
            now.people.add(p);
            return now.people.size() - 1;
        });
    }

    public int ofCrosser(int crosser, int what) {
        return told(() -> {
            Person p = person(crosser);
            ask(in(what, 0, 9), 1);
            int goes = now.going.contains(crosser) ? 1 : 0;
            int[] all = {p.kind, p.m, p.skill, p.load, p.place, p.state, p.jumps, now.needs(p), now.wears(p), goes};
            return all[what];
        });
    }

    public int change(int crosser, int what, int v) {
        return told(() -> {
            Person p = person(crosser);
            ask(in(what, 0, 3), 1);
            int[] most = {9, 99, now.wear.length - 1, 3};
            ask(in(v, 0, most[what]) && !(what == 3 && v == 1), 1);
            int[] was = {p.skill, p.load, p.place, p.state};
            int[] is = was.clone();
            is[what] = v;
            p.skill = is[0];
            p.load = is[1];
            p.place = is[2];
            p.state = is[3];
            p.jumps = what == 3 ? 0 : p.jumps;
            return was[what];
        });
    }

    public int become(int crosser, int km) {
        return told(() -> {
            Person p = person(crosser);
            ask(in(km, 0, 69), 1);
            int was = p.kind;
            p.kind = km / 10;
            p.m = km % 10;
            return was;
        });
    }

    public int as(int crosser, int kind) {
        return told(() -> {
            Person p = person(crosser);
            ask(in(kind, 0, 6), 1);
            int above = p.kind > 3 ? p.kind - 3 : 0;
            ask(kind == 0 || kind == p.kind || kind == above, 5);
            return p.m;
        });
    }

    public int go(int crossers) {
        return told(() -> {
            askSet(crossers, now.people.size());
            int was = number(now.going);
            now.going = members(crossers);
            return was;
        });
    }

    public int splice(int place, int v) {
        return told(() -> {
            ask(in(place, 0, now.wear.length - 1) && in(v, 0, 999), 1);
            int was = now.wear[place];
            now.wear[place] = v;
            return was;
        });
    }

    public int feed(long word, int n) {
        return told(() -> {
            ask(in(n, 1, 8), 1);
            ask(now.tape.length() + n <= 50, 4);
            long left = word;
            for (int i = 0; i < n; i++) {
                now.tape += (char) (left & 0xff);
                left >>= 8;
            }
            return now.tape.length();
        });
    }

    public int text(int use) {
        return told(() -> {
            ask(in(use, 0, 1), 1);
            String tape = now.tape;
            now.tape = "";
            int fault = fault(tape, use == 0 ? "klp" : "kwb");
            if (fault >= 0) {
                return -10 - fault;
            }
            now.texts[use] = tape;
            return 1;
        });
    }

    public int law(int use, int a, int b, int c) {
        return told(() -> {
            ask(in(use, 0, 1), 1);
            return now.gives(use, a, b, c);
        });
    }

    public int beats(int n) {
        return told(() -> {
            ask(in(n, 1, 200), 1);
            ask(now.beat + n <= 99999, 3);
            now = now.behind(n);
            return Integer.bitCount(now.set(2));
        });
    }

    public int loose(int n) {
        return told(() -> {
            ask(in(n, 1, 40), 1);
            ask(now.beat + n <= 99999, 3);
            for (int i = 0; i < n; i++) {
                if (!now.people.isEmpty()) {
                    now.z = (int) (now.z * 1103515245L + 12345L);
                    int one = (int) ((now.z & 0xffffffffL) / 256 % now.people.size());
                    if (!now.going.remove(one)) {
                        now.going.add(one);
                    }
                }
                now.oneBeat();
            }
            return Integer.bitCount(now.set(2));
        });
    }

    public int wear(int place) {
        return told(() -> {
            ask(in(place, 0, now.wear.length - 1), 1);
            return now.wear[place];
        });
    }

    public int then(int n, int crosser, int what) {
        return told(() -> {
            person(crosser);
            ask(in(n, 0, 200) && in(what, 0, 1), 1);
            Person p = now.behind(n).people.get(crosser);
            return what == 0 ? p.state : p.jumps;
        });
    }

    public int over(int crosser) {
        return told(() -> {
            person(crosser);
            All a = now.copy();
            int n = 0;
            while (n <= 200 && a.people.get(crosser).state != 2) {
                a.oneBeat();
                n++;
            }
            ask(n <= 200, 2);
            return n;
        });
    }

    public int begin(int crosser) {
        return told(() -> {
            ask(person(crosser).state == 0, 3);
            for (int wait = 0; wait < now.down.length; wait++) {
                All a = now.copy();
                a.going.remove(crosser);
                a = a.behind(wait);
                a.going.add(crosser);
                if (a.behind(200 - wait).people.get(crosser).state == 2) {
                    return wait;
                }
            }
            throw new Refusal(2);
        });
    }

    public int rhymes(int n, int all, int none, int what) {
        return told(() -> {
            ask(in(n, 0, 60) && in(what, 0, 1), 1);
            askSet(all, now.people.size());
            askSet(none, now.people.size());
            TreeSet<Integer> both = members(all);
            both.retainAll(members(none));
            ask(both.isEmpty(), 1);
            int p = now.down.length;
            ask(p <= 8, 3);
            List<Integer> found = new ArrayList<>();
            for (int set = 0; set < 1 << p; set++) {
                All a = now.copy();
                Arrays.fill(a.down, false);
                for (int i : members(set)) {
                    a.down[i] = true;
                }
                a.going = members(all + none);
                List<Person> people = a.behind(n).people;
                if (members(all).stream().allMatch(i -> people.get(i).state == 2)
                        && members(none).stream().allMatch(i -> people.get(i).state != 2)) {
                    found.add(set);
                }
            }
            ask(what == 0 || !found.isEmpty(), 2);
            return what == 0 ? found.size() : found.get(0);
        });
    }

    public int most(int n) {
        return told(() -> {
            ask(in(n, 0, 60), 1);
            int best = 0;
            for (int set = (1 << now.people.size()) - 1; set >= 0; set--) {
                if (!members(set).stream().allMatch(i -> now.people.get(i).state == 0)) {
                    continue;
                }
                All a = now.copy();
                a.going = members(set);
                List<Person> people = a.behind(n).people;
                if (members(set).size() >= members(best).size()
                        && members(set).stream().allMatch(i -> people.get(i).state == 2)) {
                    best = set;
                }
            }
            return best;
        });
    }

    public int relief() {
        return told(() -> {
            ask(!now.turners.isEmpty(), 2);
            int best = now.turners.size() - 1;
            for (int i = best; i >= 0; i--) {
                int[] t = now.turners.get(i);
                int[] u = now.turners.get(best);
                best = t[0] - t[1] >= u[0] - u[1] ? i : best;
            }
            return best;
        });
    }

    public int stands() {
        return told(() -> {
            for (int n = 0; n <= 200; n++) {
                if (now.behind(n).stands()) {
                    return n;
                }
            }
            throw new Refusal(2);
        });
    }

    public int parts(int v) {
        return told(() -> {
            ask(in(v, 0, 999), 1);
            All a = now.copy();
            for (int n = 0; n <= 200; n++) {
                if (Arrays.stream(a.wear).anyMatch(w -> w >= v)) {
                    return n;
                }
                a.oneBeat();
            }
            throw new Refusal(2);
        });
    }

    public int who(int sheet, int n) {
        return told(() -> {
            ask(in(sheet, 0, 3) && in(n, 0, 200), 1);
            ask(sheets[sheet] != null && sheets[sheet].length == now.wear.length, 2);
            TreeSet<Integer> can = new TreeSet<>();
            for (int i = 0; i < now.people.size(); i++) {
                All a = now.copy();
                a.going = new TreeSet<>(List.of(i));
                if (now.people.get(i).state == 0 && Arrays.equals(a.behind(n).wear, sheets[sheet])) {
                    can.add(i);
                }
            }
            return number(can);
        });
    }

    /** What the wear would be if just one went: for tests that want who() to find somebody. */
    int[] wearIfJust(int crosser, int n) {
        All a = now.copy();
        a.going = new TreeSet<>(List.of(crosser));
        return a.behind(n).wear;
    }

    public int odds(int crosser, int n, int part) {
        return told(() -> {
            Person p = person(crosser);
            ask(in(n, 0, 200) && in(part, 0, 1), 1);
            ask(p.state == 0, 3);
            int length = now.down.length;
            int hits = 0;
            for (int i = 0; i < length; i++) {
                All a = now.copy();
                a.beat = a.beat / length * length + i;
                a.going.add(crosser);
                hits += a.behind(n).people.get(crosser).state == 2 ? 1 : 0;
            }
            int x = length;
            int y = hits;
            while (y != 0) {
                int rest = x % y;
                x = y;
                y = rest;
            }
            return (part == 0 ? hits : length) / x;
        });
    }

    public int seed(int v) {
        int was = now.z;
        now.z = v;
        return was;
    }

    private int say(int self, int from, int act, int x, List<Integer> begun) {
        Person p = now.people.get(self);
        int[][] bodies = {{10, 11, 12, 13}, {20, 0, 0, 0}, {0, 30, 0, 0}, {0, 0, 40, 0}, {0, 0, 0, 50}, {0, 60, 0, 0}, {0, 0, 70, 71}};
        int kind = from;
        while (bodies[kind][act] == 0) {
            kind = kind > 3 ? kind - 3 : 0;
        }
        int body = bodies[kind][act];
        int above = kind > 3 ? kind - 3 : 0;
        begun.add(body);
        int left;
        switch (body) {
            case 10: return x + self;
            case 11: return 2 * say(self, p.kind, 0, x, begun);
            case 12: return x - p.m;
            case 13:
                left = say(self, p.kind, 1, x, begun);
                return left ^ say(self, p.kind, 2, x, begun);
            case 20: return 3 * say(self, above, 0, x, begun);
            case 30:
                left = say(self, above, 1, x, begun);
                return left - say(self, p.kind, 2, 1, begun);
            case 40: return -say(self, above, 2, x, begun);
            case 50:
                left = say(self, above, 3, x, begun);
                return left - say(self, p.kind, 0, 2, begun);
            case 60: return say(self, above, 1, x + 1, begun);
            case 70: return say(self, above, 2, x, begun) ^ self;
            default:
                left = say(self, p.kind, 1, x, begun);
                return left - say(self, above, 3, x, begun);
        }
    }

    public int voice(int crosser, int act, int x) {
        return told(() -> {
            Person p = person(crosser);
            ask(in(act, 0, 3), 1);
            List<Integer> begun = new ArrayList<>();
            int answer = say(crosser, p.kind, act, x, begun);
            trace = begun.stream().limit(40).mapToInt(b -> b).toArray();
            return answer;
        });
    }

    public int trace(int i) {
        return told(() -> {
            ask(in(i, 0, trace.length - 1), 2);
            return trace[i];
        });
    }

    public int sheet(int sheet, int width, int n) {
        return told(() -> {
            ask(in(sheet, 0, 3) && List.of(0, 8, 16, 32).contains(width), 1);
            if (width > 0) {
                ask(n >= 0, 3);
                ask(n <= 40, 1);
            }
            bits[sheet] = width;
            sheets[sheet] = width == 0 ? null : new int[n];
            return 1;
        });
    }

    public int put(int sheet, int i, int v) {
        return told(() -> {
            ask(in(sheet, 0, 3), 1);
            ask(sheets[sheet] != null, 2);
            ask(in(i, 0, sheets[sheet].length - 1), 1);
            int shift = 32 - bits[sheet];
            sheets[sheet][i] = v << shift >> shift;
            return 1;
        });
    }

    public int move(int sheet, int i, int other, int j, int n) {
        return told(() -> {
            ask(in(sheet, 0, 3) && in(other, 0, 3), 1);
            ask(sheets[sheet] != null && sheets[other] != null, 2);
            ask(bits[sheet] == bits[other], 5);
            ask(n >= 0 && i >= 0 && j >= 0 && (long) i + n <= sheets[sheet].length
                && (long) j + n <= sheets[other].length, 1);
            int[] were = sheets[sheet].clone();
            for (int k = 0; k < n; k++) {
                sheets[other][j + k] = were[i + k];
            }
            return n;
        });
    }

    public int loads(int sheet) {
        return told(() -> {
            ask(in(sheet, 0, 3), 1);
            ask(sheets[sheet] != null, 2);
            int done = 0;
            for (int v : sheets[sheet]) {
                if (done == now.people.size() || !in(v, 0, 99)) {
                    break;
                }
                now.people.get(done++).load = v;
            }
            return done;
        });
    }

    public int judge(int sheet) {
        return told(() -> {
            ask(in(sheet, 0, 3), 1);
            ask(sheets[sheet] != null, 2);
            int[] states = now.people.stream().mapToInt(p -> p.state).toArray();
            return Arrays.mismatch(sheets[sheet], states);
        });
    }

    public int image() {
        image = now.copy();
        return ++images;
    }

    public int restore() {
        return told(() -> {
            ask(image != null, 2);
            now = image.copy();
            return now.beat;
        });
    }

    public int tell(int v) {
        return told(() -> {
            ask(now.waiting.size() < 20, 4);
            now.waiting.add(v);
            return now.waiting.size();
        });
    }

    public int check() {
        List<Integer> waiting = now.waiting;
        now.waiting = new ArrayList<>();
        for (int i = 0; i < waiting.size(); i++) {
            if (Integer.bitCount(now.behind(i + 1).set(2)) != waiting.get(i)) {
                return i + 1;
            }
        }
        return 0;
    }

    public int count(int what) {
        return told(() -> {
            ask(in(what, 0, 13), 1);
            TreeSet<Integer> down = new TreeSet<>();
            for (int i = 0; i < now.down.length; i++) {
                if (now.down[i]) {
                    down.add(i);
                }
            }
            int[] all = {now.wear.length, now.down.length, number(down), now.beat, now.turners.size(), now.turns,
                now.people.size(), number(now.going), now.set(2), now.set(3), now.tape.length(), now.waiting.size(),
                trace.length, now.z};
            return all[what];
        });
    }

    public int told(int k) {
        return told(() -> {
            ask(in(k, 1, 5), 1);
            return errors[k];
        });
    }
}
