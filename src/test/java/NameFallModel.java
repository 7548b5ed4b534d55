import java.nio.charset.StandardCharsets;
import java.util.ArrayList;
import java.util.Arrays;
import java.util.HashSet;
import java.util.List;
import java.util.Random;
import java.util.Set;

/**
 * Random runs, each call answered twice: by NameFall and by a slow model that follows the
 * document's words one by one, with texts, lists and exceptions. Every seed is fixed.
 */
public final class NameFallModel {
    private static final int RUNS = 3000;
    private static final int CALLS = 200;
    private static int wrong = 0;

    public static void main(String[] args) {
        int landed = 0;
        int faults = 0;
        for (int seed = 1; seed <= RUNS && wrong < 20; seed++) {
            Run run = new Run(seed);
            run.play();
            landed += run.landed;
            faults += run.faults;
        }
        if (landed < RUNS || faults < RUNS / 4) {
            wrong++;
            System.out.println("the runs are too poor: " + landed + " lands, " + faults + " faults");
        }
        System.out.println(wrong == 0 ? "all answers are as the model's" : wrong + " answers are not");
        if (wrong != 0) {
            System.exit(1);
        }
    }

    private static final class Run {
        final int seed;
        final Random random;
        final NameFall x = new NameFall();
        final Model model = new Model();
        final StringBuilder log = new StringBuilder();
        int landed;
        int faults;

        Run(int seed) {
            this.seed = seed;
            this.random = new Random(seed);
        }

        void due(String call, long got, long want) {
            log.append(call).append(" = ").append(got).append('\n');
            if (got != want) {
                wrong++;
                System.out.println("seed " + seed + ": " + call + " answered " + got + ", the model says " + want);
                if (wrong == 1) {
                    System.out.println(log);
                }
            }
        }

        void play() {
            String good = null;
            for (int i = 0; i < 1 + random.nextInt(3); i++) {
                String text = new Maker(random).text();
                if (random.nextInt(3) == 0) {
                    tell(spoil(text));
                }
                tell(text);
                good = text;
                ask(CALLS / 3);
            }
            if (good != null && random.nextBoolean()) {
                tell(spoil(good));
                ask(10);
            }
        }

        /** Feeds a text; after a fault the TAPE still has it, so it is cut first. */
        void tell(String text) {
            due("end(0)", x.end(0), 0);
            byte[] bytes = text.getBytes(StandardCharsets.ISO_8859_1);
            byte[] padded = Arrays.copyOf(bytes, (bytes.length + 19) / 20 * 20);
            for (int i = 0; i < padded.length; i += 20) {
                int[] n = new int[5];
                for (int j = 0; j < 20; j++) {
                    n[j / 4] = n[j / 4] << 8 | padded[i + j] & 255;
                }
                due("feed(..)", x.feed(n[0], n[1], n[2], n[3], n[4]), i + 20);
            }
            due("end(" + bytes.length + ")", x.end(bytes.length), bytes.length);
            log.append(text).append('\n');
            int lines = model.land(text);
            due("land()", x.land(), lines);
            due("fault(0)", x.fault(0), model.fault);
            due("fault(1)", x.fault(1), model.faultPlace);
            due("about(8)", x.about(8), lines == -1 ? bytes.length : 0);
            if (lines == -1) {
                faults++;
            } else {
                landed++;
            }
        }

        String spoil(String text) {
            StringBuilder b = new StringBuilder(text);
            int times = 1 + random.nextInt(2);
            for (int i = 0; i < times && b.length() > 0; i++) {
                int at = random.nextInt(b.length());
                switch (random.nextInt(7)) {
                    case 0:
                        b.deleteCharAt(at);
                        break;
                    case 1:
                        b.setCharAt(at, "abz 09;\n\tA_-\u00e9\u0000{}".charAt(random.nextInt(16)));
                        break;
                    case 2:
                        b.setLength(at);
                        break;
                    case 3: {
                        String[] w = Model.KEYWORDS;
                        b.insert(at, " " + w[random.nextInt(w.length)] + " ");
                        break;
                    }
                    case 4:
                        b.insert(at, random.nextInt(12345));
                        break;
                    case 5:
                        swapWords(b);
                        break;
                    default:
                        b.insert(at, "abcdefghij".substring(0, 1 + random.nextInt(9)));
                        break;
                }
            }
            if (b.length() > 1600) {
                b.setLength(1600);
            }
            return b.toString();
        }

        void swapWords(StringBuilder b) {
            String[] parts = b.toString().split(" ");
            int i = random.nextInt(parts.length);
            int j = random.nextInt(parts.length);
            parts[i] = parts[j];
            b.setLength(0);
            b.append(String.join(" ", parts));
        }

        /** Mostly a number that can be, now and then one that can't. */
        int pick(int count) {
            if (count == 0 || random.nextInt(25) == 0) {
                int[] odd = {-1, count, count + 1, Integer.MIN_VALUE, Integer.MAX_VALUE, -7, 31, 1 << 20};
                return odd[random.nextInt(odd.length)];
            }
            return random.nextInt(count);
        }

        int year() {
            if (random.nextInt(3) > 0 && !model.deaths.isEmpty()) {
                int y = model.deaths.get(random.nextInt(model.deaths.size())).year;
                return y + random.nextInt(9) - 2;
            }
            if (random.nextInt(2) == 0) {
                return random.nextInt(60);
            }
            return pick(200);
        }

        int time() {
            switch (random.nextInt(6)) {
                case 0:
                    return random.nextInt(model.time + 3) - 1;
                case 1:
                    return new int[] {-1, Integer.MIN_VALUE, Integer.MAX_VALUE, 0}[random.nextInt(4)];
                default:
                    return model.time;
            }
        }

        void ask(int calls) {
            for (int i = 0; i < calls; i++) {
                if (random.nextInt(3) == 0) {
                    change();
                } else {
                    question();
                }
            }
            for (int what = -1; what <= 9; what++) {
                if (what != 8) {
                    due("about(" + what + ")", x.about(what), model.about(what));
                }
            }
        }

        void change() {
            int kind = random.nextInt(8);
            if (kind < 5) {
                int p = pick(model.persons.size());
                int y = random.nextInt(20) == 0 ? pick(200) : random.nextInt(70);
                due("die(" + p + ", " + y + ")", x.die(p, y), model.die(p, y));
            } else if (kind < 7) {
                int d = pick(model.deaths.size());
                due("untell(" + d + ")", x.untell(d) ? 1 : 0, model.untell(d) ? 1 : 0);
            } else {
                int by = random.nextInt(5) == 0 ? pick(1001) : random.nextInt(4);
                due("later(" + by + ")", x.later(by), model.later(by));
            }
        }

        void question() {
            int p = pick(model.persons.size());
            int q = pick(model.persons.size());
            int m = pick(model.meanings.size());
            int w = pick(model.words.size());
            int a = pick(model.places.size());
            int b = pick(model.places.size());
            int y = year();
            int k = time();
            String end = ", " + y + ", k " + k + ")";
            switch (random.nextInt(20)) {
                case 0:
                    due("alive(" + p + end, x.alive(p, y, k), model.alive(p, y, k));
                    break;
                case 1:
                    due("apart(" + w + ", " + p + ")", x.apart(w, p), model.apart(w, p));
                    break;
                case 2:
                    due("near(" + p + ", " + q + ")", x.near(p, q), model.near(p, q));
                    break;
                case 3:
                    due("may(" + p + ", " + q + ", " + w + end, x.may(p, q, w, y, k), model.may(p, q, w, y, k));
                    break;
                case 4: {
                    int s = saying();
                    due("judge(" + p + ", " + q + ", " + s + end, x.judge(p, q, s, y, k), model.judge(p, q, s, y, k));
                    break;
                }
                case 5:
                    due("instead(" + p + ", " + q + ", " + m + end, x.instead(p, q, m, y, k), model.instead(p, q, m, y, k));
                    break;
                case 6:
                    due("cost(" + p + ", " + q + ", " + m + end, x.cost(p, q, m, y, k), model.cost(p, q, m, y, k));
                    break;
                case 7:
                    due("grasp(" + p + ", " + q + end, x.grasp(p, q, y, k), model.grasp(p, q, y, k));
                    break;
                case 8:
                    due("today(" + a + ", " + m + end, x.today(a, m, y, k), model.today(a, m, y, k));
                    break;
                case 9:
                    due("parted(" + a + ", " + b + end, x.parted(a, b, y, k), model.parted(a, b, y, k));
                    break;
                case 10: {
                    int to = year();
                    due("changes(" + a + ", " + m + ", " + to + end, x.changes(a, m, y, to, k), model.changes(a, m, y, to, k));
                    break;
                }
                case 11: {
                    int to = year();
                    due("renewed(" + a + ", " + to + end, x.renewed(a, y, to, k), model.renewed(a, y, to, k));
                    break;
                }
                case 12:
                case 13:
                    way(p, q, m, y, k);
                    break;
                case 14:
                    due("safe(" + a + ", " + w + ")", x.safe(a, w), model.safe(a, w));
                    break;
                case 15:
                    due("hurt(" + a + ", " + w + end, x.hurt(a, w, y, k), model.hurt(a, w, y, k));
                    break;
                case 16:
                    due("child(" + a + end, x.child(a, y, k), model.child(a, y, k));
                    break;
                case 17: {
                    int o = random.nextInt(13) - 1;
                    int part = random.nextInt(20) == 0 ? 2 : random.nextInt(2);
                    due("mean(" + a + ", " + o + ", part " + part + end, x.mean(a, o, y, part, k), model.mean(a, o, y, part, k));
                    break;
                }
                case 18:
                    due("wish(" + a + end, x.wish(a, y, k), model.wish(a, y, k));
                    break;
                default: {
                    int what = random.nextInt(4) - 1;
                    due("old(" + m + ", " + what + ")", x.old(m, what), model.old(m, what));
                    break;
                }
            }
        }

        void way(int p, int q, int m, int y, int k) {
            List<Integer> way = model.way(p, q, m, y, k);
            String call = "(" + p + ", " + q + ", " + m + ", " + y + ", k " + k + ")";
            due("tell" + call, x.tell(p, q, m, y, k), way == null ? -1 : way.size());
            for (int i = -1; i < 5; i++) {
                int want = way == null || i < 0 || i >= way.size() ? -1 : way.get(i);
                due("told" + call + " " + i, x.told(p, q, m, y, i, k), want);
            }
        }

        int saying() {
            int n = 0;
            int count = 1 + random.nextInt(5);
            for (int i = 0; i < count; i++) {
                int digit = random.nextInt(12) == 0 ? random.nextInt(32) : 1 + Math.max(0, pick(Math.max(1, model.words.size()))) % 31;
                n |= digit << 5 * i;
            }
            return random.nextInt(30) == 0 ? pick(33554432) : n;
        }
    }

    /** Makes texts that are right but for chance. */
    private static final class Maker {
        final Random random;
        final StringBuilder out = new StringBuilder();
        final Set<String> usedWords = new HashSet<>();

        Maker(Random random) {
            this.random = random;
        }

        String gap() {
            return random.nextInt(12) == 0 ? "\n  " : " ";
        }

        void put(Object... parts) {
            for (Object part : parts) {
                out.append(part).append(gap());
            }
            out.append(random.nextBoolean() ? ";" : ";\n");
        }

        String sound() {
            int n = random.nextInt(25) == 0 ? 8 : 1 + random.nextInt(4);
            StringBuilder b = new StringBuilder();
            for (int i = 0; i < n; i++) {
                b.append("abc".charAt(random.nextInt(3)));
            }
            return b.toString();
        }

        String text() {
            int places = 1 + random.nextInt(4);
            int meanings = 1 + random.nextInt(random.nextInt(4) == 0 ? 8 : 4);
            int words = random.nextInt(random.nextInt(3) == 0 ? 25 : 13);
            int persons = random.nextInt(random.nextInt(3) == 0 ? 13 : 8);
            boolean crowded = random.nextInt(6) == 0;
            if (crowded) {
                persons = 10 + random.nextInt(3);
            }
            for (int i = 0; i < places; i++) {
                String[] kinds = {"all", "all", "kin", "before"};
                String[] backs = {"never", "any", "own"};
                put("place", "p" + (char) ('a' + i), "custom", kinds[random.nextInt(4)], "alike", random.nextInt(4),
                    "near", random.nextInt(5), "years", random.nextInt(4) == 0 ? 99 : 1 + random.nextInt(12),
                    "back", backs[random.nextInt(3)]);
            }
            for (int i = 0; i < meanings; i++) {
                put("meaning", "m" + (char) ('a' + i));
            }
            for (int i = 0; i < words; i++) {
                word(places, meanings);
            }
            if (meanings > 1) {
                for (int i = random.nextInt(11); i > 0; i--) {
                    turn(meanings);
                }
            }
            for (int i = 0; i < persons; i++) {
                person(i, places, crowded);
            }
            if (persons > 1) {
                talks(persons);
            }
            if (out.length() > 1600) {
                return out.substring(0, out.lastIndexOf(";", 1599) + 1);
            }
            return out.toString();
        }

        void word(int places, int meanings) {
            String name = sound();
            if (!usedWords.add(name)) {
                return;
            }
            List<Object> parts = new ArrayList<>(List.of("word", name, "means", "m" + (char) ('a' + random.nextInt(meanings)), "at"));
            int first = random.nextInt(places);
            for (int i = 0; i < places; i++) {
                if (i == 0 || random.nextInt(3) == 0) {
                    parts.add("p" + (char) ('a' + (first + i) % places));
                }
            }
            put(parts.toArray());
        }

        void turn(int meanings) {
            int of = random.nextInt(meanings);
            int by = (of + 1 + random.nextInt(meanings - 1)) % meanings;
            int with = (of + 1 + random.nextInt(meanings - 1)) % meanings;
            put("turn", "m" + (char) ('a' + of), "m" + (char) ('a' + by), "m" + (char) ('a' + with));
        }

        void person(int i, int places, boolean crowded) {
            String home = crowded && random.nextInt(12) > 0 ? "pa" : "p" + (char) ('a' + random.nextInt(places));
            List<Object> parts = new ArrayList<>(List.of("person", "h" + (char) ('a' + i), "called", sound(), "at", home,
                "born", random.nextInt(crowded ? 10 : random.nextInt(9) == 0 ? 151 : 45)));
            if (i > 0 && random.nextInt(3) > 0) {
                int parent = random.nextInt(i);
                parts.add("of");
                parts.add("h" + (char) ('a' + parent));
                int other = random.nextInt(i);
                if (other != parent && random.nextBoolean()) {
                    parts.add("h" + (char) ('a' + other));
                }
            }
            put(parts.toArray());
        }

        void talks(int persons) {
            Set<String> done = new HashSet<>();
            for (int i = random.nextInt(21); i > 0; i--) {
                int a = random.nextInt(persons);
                int b = random.nextInt(persons);
                if (a != b && done.add(Math.min(a, b) + " " + Math.max(a, b))) {
                    put("talk", "h" + (char) ('a' + a), "h" + (char) ('a' + b));
                }
            }
        }
    }

    private static final class Fault extends RuntimeException {
        private static final long serialVersionUID = 1L;
        final int number;
        final int place;

        Fault(int number, int place) {
            super(null, null, false, false);
            this.number = number;
            this.place = place;
        }
    }

    private static final class Place {
        String name;
        String custom;
        int alike;
        int near;
        int years;
        String back;
    }

    private static final class Word {
        String name;
        int meaning;
        List<Integer> at = new ArrayList<>();
    }

    private static final class Person {
        String name;
        String called;
        int home;
        int born;
        List<Integer> parents = new ArrayList<>();
    }

    private static final class Death {
        int person;
        int year;
        int told;
        int untold = Integer.MAX_VALUE;
        boolean isUntold;
    }

    private record Token(char kind, String text, int place) {
    }

    private static final class Text {
        final List<Place> places = new ArrayList<>();
        final List<String> meanings = new ArrayList<>();
        final List<Word> words = new ArrayList<>();
        final List<int[]> turns = new ArrayList<>();
        final List<Person> persons = new ArrayList<>();
        final List<int[]> talks = new ArrayList<>();
        final List<Token> tokens = new ArrayList<>();
        int at;
        int lines;

        Text(String text) {
            part(text);
            while (peek().kind != '$') {
                line();
                lines++;
            }
        }

        void part(String s) {
            java.util.regex.Matcher m = java.util.regex.Pattern.compile("[ \\n]+|[a-z]+|[0-9]+|;|.", java.util.regex.Pattern.DOTALL).matcher(s);
            while (m.find()) {
                String t = m.group();
                char c = t.charAt(0);
                if (c == ' ' || c == '\n') {
                    continue;
                }
                boolean letterBehind = m.end() < s.length() && s.charAt(m.end()) >= 'a' && s.charAt(m.end()) <= 'z';
                char kind = '!';
                if (c == ';') {
                    kind = ';';
                } else if (c >= 'a' && c <= 'z' && t.length() <= 8) {
                    kind = Arrays.asList(Model.KEYWORDS).contains(t) ? 'k' : 'n';
                } else if (c >= '0' && c <= '9' && t.length() <= 4 && !letterBehind) {
                    kind = '#';
                }
                tokens.add(new Token(kind, t, m.start()));
            }
            tokens.add(new Token('$', "", s.length()));
        }

        Token peek() {
            Token t = tokens.get(at);
            if (t.kind == '!') {
                throw new Fault(1, t.place);
            }
            return t;
        }

        Token take(char kind) {
            Token t = peek();
            if (t.kind != kind) {
                throw new Fault(2, t.place);
            }
            at++;
            return t;
        }

        String word(String... any) {
            Token t = peek();
            if (t.kind != 'k' || !Arrays.asList(any).contains(t.text)) {
                throw new Fault(2, t.place);
            }
            at++;
            return t.text;
        }

        int number(int least, int most) {
            Token t = take('#');
            int n = Integer.parseInt(t.text);
            if (n < least || n > most) {
                throw new Fault(4, t.place);
            }
            return n;
        }

        String fresh(List<String> names) {
            Token t = take('n');
            if (names.contains(t.text)) {
                throw new Fault(3, t.place);
            }
            return t.text;
        }

        int known(List<String> names) {
            Token t = take('n');
            if (!names.contains(t.text)) {
                throw new Fault(5, t.place);
            }
            return names.indexOf(t.text);
        }

        int lastPlace() {
            return tokens.get(at - 1).place;
        }

        void room(int count, int most) {
            if (count == most) {
                throw new Fault(2, lastPlace());
            }
        }

        List<String> placeNames() {
            List<String> l = new ArrayList<>();
            places.forEach(p -> l.add(p.name));
            return l;
        }

        List<String> wordNames() {
            List<String> l = new ArrayList<>();
            words.forEach(p -> l.add(p.name));
            return l;
        }

        List<String> personNames() {
            List<String> l = new ArrayList<>();
            persons.forEach(p -> l.add(p.name));
            return l;
        }

        void line() {
            switch (word("place", "meaning", "word", "turn", "person", "talk")) {
                case "place": {
                    room(places.size(), 4);
                    Place p = new Place();
                    p.name = fresh(placeNames());
                    word("custom");
                    p.custom = word("all", "kin", "before");
                    word("alike");
                    p.alike = number(0, 3);
                    word("near");
                    p.near = number(0, 4);
                    word("years");
                    p.years = number(1, 99);
                    word("back");
                    p.back = word("never", "any", "own");
                    take(';');
                    places.add(p);
                    break;
                }
                case "meaning": {
                    room(meanings.size(), 8);
                    String name = fresh(meanings);
                    take(';');
                    meanings.add(name);
                    break;
                }
                case "word": {
                    room(words.size(), 24);
                    Word w = new Word();
                    w.name = fresh(wordNames());
                    word("means");
                    w.meaning = known(meanings);
                    word("at");
                    do {
                        int p = known(placeNames());
                        if (w.at.contains(p)) {
                            throw new Fault(3, lastPlace());
                        }
                        w.at.add(p);
                    } while (peek().kind == 'n');
                    take(';');
                    words.add(w);
                    break;
                }
                case "turn": {
                    room(turns.size(), 10);
                    int of = known(meanings);
                    int[] turn = {of, 0, 0};
                    for (int i = 1; i <= 2; i++) {
                        turn[i] = known(meanings);
                        if (turn[i] == of) {
                            throw new Fault(3, lastPlace());
                        }
                    }
                    take(';');
                    turns.add(turn);
                    break;
                }
                case "person": {
                    room(persons.size(), 12);
                    Person p = new Person();
                    p.name = fresh(personNames());
                    word("called");
                    p.called = take('n').text;
                    word("at");
                    p.home = known(placeNames());
                    word("born");
                    p.born = number(0, 150);
                    if (peek().kind == 'k' && peek().text.equals("of")) {
                        at++;
                        p.parents.add(known(personNames()));
                        if (peek().kind == 'n') {
                            int other = known(personNames());
                            if (p.parents.contains(other)) {
                                throw new Fault(3, lastPlace());
                            }
                            p.parents.add(other);
                        }
                    }
                    take(';');
                    persons.add(p);
                    break;
                }
                default: {
                    room(talks.size(), 20);
                    int a = known(personNames());
                    int b = known(personNames());
                    boolean told = a == b;
                    for (int[] t : talks) {
                        told |= t[0] == a && t[1] == b || t[0] == b && t[1] == a;
                    }
                    if (told) {
                        throw new Fault(3, lastPlace());
                    }
                    take(';');
                    talks.add(new int[] {a, b});
                    break;
                }
            }
        }
    }

    private static final class Model {
        static final String[] KEYWORDS = {"place", "custom", "all", "kin", "before", "alike", "near", "years", "back",
            "never", "any", "own", "meaning", "word", "means", "at", "turn", "person", "called", "born", "of", "talk"};
        List<Place> places = new ArrayList<>();
        List<String> meanings = new ArrayList<>();
        List<Word> words = new ArrayList<>();
        List<int[]> turns = new ArrayList<>();
        List<Person> persons = new ArrayList<>();
        List<int[]> talks = new ArrayList<>();
        List<Death> deaths = new ArrayList<>();
        int time;
        int fault;
        int faultPlace = -1;

        int land(String text) {
            fault = 0;
            faultPlace = -1;
            try {
                Text t = new Text(text);
                places = t.places;
                meanings = t.meanings;
                words = t.words;
                turns = t.turns;
                persons = t.persons;
                talks = t.talks;
                deaths = new ArrayList<>();
                return t.lines;
            } catch (Fault f) {
                fault = f.number;
                faultPlace = f.place;
                return -1;
            }
        }

        boolean in(int n, List<?> list) {
            return n >= 0 && n < list.size();
        }

        boolean year(int y) {
            return y >= 0 && y <= 199;
        }

        int die(int p, int y) {
            if (!in(p, persons) || !year(y) || y < persons.get(p).born || deaths.size() == 60) {
                return -1;
            }
            Death d = new Death();
            d.person = p;
            d.year = y;
            d.told = time;
            deaths.add(d);
            return deaths.size() - 1;
        }

        boolean untell(int n) {
            if (!in(n, deaths) || deaths.get(n).isUntold) {
                return false;
            }
            deaths.get(n).isUntold = true;
            deaths.get(n).untold = time;
            return true;
        }

        int later(int by) {
            if (by < 0 || by > 1000 || time + by > 100000) {
                return -1;
            }
            return time += by;
        }

        /** The YEAR in which one died, as known at k; null if none is known. */
        Integer died(int p, int k) {
            for (int i = deaths.size() - 1; i >= 0; i--) {
                Death d = deaths.get(i);
                if (d.person == p && d.told <= k && !(d.isUntold && d.untold <= k)) {
                    return d.year;
                }
            }
            return null;
        }

        boolean lives(int p, int y, int k) {
            Integer died = died(p, k);
            return y >= persons.get(p).born && (died == null || y < died);
        }

        int alive(int p, int y, int k) {
            return !in(p, persons) || !year(y) ? -1 : lives(p, y, k) ? 1 : 0;
        }

        static int apart(String a, String b) {
            int[][] t = new int[a.length() + 1][b.length() + 1];
            for (int i = 0; i <= a.length(); i++) {
                for (int j = 0; j <= b.length(); j++) {
                    if (i == 0 || j == 0) {
                        t[i][j] = i + j;
                    } else if (a.charAt(i - 1) == b.charAt(j - 1)) {
                        t[i][j] = t[i - 1][j - 1];
                    } else {
                        t[i][j] = 1 + Math.min(t[i - 1][j - 1], Math.min(t[i - 1][j], t[i][j - 1]));
                    }
                }
            }
            return t[a.length()][b.length()];
        }

        int apart(int w, int p) {
            return in(w, words) && in(p, persons) ? apart(words.get(w).name, persons.get(p).called) : -1;
        }

        int near(int a, int b) {
            return in(a, persons) && in(b, persons) ? steps(a, b) : -1;
        }

        int steps(int a, int b) {
            Set<Integer> reached = new HashSet<>(Set.of(a));
            for (int n = 0; n < 20; n++) {
                if (reached.contains(b)) {
                    return n;
                }
                Set<Integer> more = new HashSet<>(reached);
                for (int p = 0; p < persons.size(); p++) {
                    for (int parent : persons.get(p).parents) {
                        if (reached.contains(p)) {
                            more.add(parent);
                        }
                        if (reached.contains(parent)) {
                            more.add(p);
                        }
                    }
                }
                reached = more;
            }
            return 99;
        }

        boolean comesFrom(int p, int d) {
            for (int parent : persons.get(p).parents) {
                if (parent == d || comesFrom(parent, d)) {
                    return true;
                }
            }
            return false;
        }

        /** Whether a FALL by a death of d in the YEAR y stands in a YEAR. */
        boolean stands(int d, int y, int year) {
            Place place = places.get(persons.get(d).home);
            if (year < y || place.years != 99 && year >= y + place.years) {
                return false;
            }
            for (int p = 0; p < persons.size(); p++) {
                Person other = persons.get(p);
                if (p != d && other.called.equals(persons.get(d).called) && other.born >= y && other.born <= year) {
                    if (place.back.equals("any") || place.back.equals("own") && comesFrom(p, d)) {
                        return false;
                    }
                }
            }
            return true;
        }

        boolean holds(int d, int w) {
            return apart(w, d) <= places.get(persons.get(d).home).alike;
        }

        boolean barred(int s, int h, int w, int year, int k) {
            for (int d = 0; d < persons.size(); d++) {
                Integer y = died(d, k);
                if (y == null || !stands(d, y, year) || !holds(d, w)) {
                    continue;
                }
                Place place = places.get(persons.get(d).home);
                boolean bound;
                if (place.custom.equals("all")) {
                    bound = persons.get(s).home == persons.get(d).home;
                } else if (place.custom.equals("kin")) {
                    bound = steps(s, d) <= place.near;
                } else {
                    bound = steps(h, d) <= place.near;
                }
                if (bound) {
                    return true;
                }
            }
            return false;
        }

        boolean speak(int s, int h, int year, int k) {
            return in(s, persons) && in(h, persons) && s != h && year(year) && lives(s, year, k) && lives(h, year, k);
        }

        int may(int s, int h, int w, int year, int k) {
            return !in(w, words) || !speak(s, h, year, k) ? -1 : barred(s, h, w, year, k) ? 0 : 1;
        }

        int judge(int s, int h, int saying, int year, int k) {
            if (!speak(s, h, year, k) || saying < 1 || saying > 33554431 || saying % 32 == 0) {
                return -1;
            }
            List<Integer> said = new ArrayList<>();
            for (int n = saying; n % 32 != 0; n /= 32) {
                said.add(n % 32 - 1);
            }
            int first = -2;
            for (int i = said.size() - 1; i >= 0; i--) {
                if (!in(said.get(i), words)) {
                    return -1;
                }
            }
            for (int i = said.size() - 1; i >= 0; i--) {
                if (barred(s, h, said.get(i), year, k)) {
                    first = i;
                }
            }
            return first;
        }

        List<Integer> row(int place, int meaning) {
            List<Integer> row = new ArrayList<>();
            for (int w = 0; w < words.size(); w++) {
                if (words.get(w).meaning == meaning && words.get(w).at.contains(place)) {
                    row.add(w);
                }
            }
            return row;
        }

        int says(int s, int h, int m, int year, int k) {
            List<Integer> all = new ArrayList<>(row(persons.get(s).home, m));
            for (int p = 0; p < places.size(); p++) {
                all.addAll(row(p, m));
            }
            for (int w : all) {
                if (!barred(s, h, w, year, k)) {
                    return w;
                }
            }
            return -1;
        }

        int instead(int s, int h, int m, int year, int k) {
            return in(m, meanings) && speak(s, h, year, k) ? says(s, h, m, year, k) : -1;
        }

        int cost(int s, int h, int m, int year, int k) {
            if (!in(m, meanings) || !speak(s, h, year, k)) {
                return -1;
            }
            boolean[] direct = new boolean[meanings.size()];
            for (int i = 0; i < direct.length; i++) {
                direct[i] = says(s, h, i, year, k) != -1;
            }
            return least(m, direct, new HashSet<>());
        }

        /** By way of all trees in which no MEANING stands below itself. */
        int least(int m, boolean[] direct, Set<Integer> above) {
            if (direct[m]) {
                return 1;
            }
            if (above.contains(m)) {
                return -1;
            }
            Set<Integer> with = new HashSet<>(above);
            with.add(m);
            int best = -1;
            for (int[] t : turns) {
                if (t[0] == m) {
                    int a = least(t[1], direct, with);
                    int b = a == -1 ? -1 : least(t[2], direct, with);
                    if (b != -1 && (best == -1 || a + b < best)) {
                        best = a + b;
                    }
                }
            }
            return best;
        }

        boolean gets(int s, int h, int m, int year, int k) {
            return row(persons.get(h).home, m).contains(says(s, h, m, year, k));
        }

        int grasp(int s, int h, int year, int k) {
            if (!speak(s, h, year, k)) {
                return -1;
            }
            int n = 0;
            for (int m = 0; m < meanings.size(); m++) {
                n += gets(s, h, m, year, k) ? 1 : 0;
            }
            return n;
        }

        boolean heldAtPlace(int place, int w, int year, int k, Set<Integer> alsoDead) {
            if (!places.get(place).custom.equals("all")) {
                return false;
            }
            for (int d = 0; d < persons.size(); d++) {
                if (persons.get(d).home != place || !holds(d, w)) {
                    continue;
                }
                Integer y = alsoDead.contains(d) ? Integer.valueOf(year) : died(d, k);
                if (y != null && stands(d, y, year)) {
                    return true;
                }
            }
            return false;
        }

        int now(int place, int m, int year, int k, Set<Integer> alsoDead) {
            for (int w : row(place, m)) {
                if (!heldAtPlace(place, w, year, k, alsoDead)) {
                    return w;
                }
            }
            return -1;
        }

        int today(int place, int m, int year, int k) {
            return in(place, places) && in(m, meanings) && year(year) ? now(place, m, year, k, Set.of()) : -1;
        }

        int parted(int a, int b, int year, int k) {
            if (!in(a, places) || !in(b, places) || !year(year)) {
                return -1;
            }
            int n = 0;
            for (int m = 0; m < meanings.size(); m++) {
                n += today(a, m, year, k) != today(b, m, year, k) ? 1 : 0;
            }
            return n;
        }

        int changes(int place, int m, int from, int to, int k) {
            if (!in(place, places) || !in(m, meanings) || !year(from) || !year(to) || from >= to) {
                return -1;
            }
            int n = 0;
            for (int y = from + 1; y <= to; y++) {
                n += today(place, m, y, k) != today(place, m, y - 1, k) ? 1 : 0;
            }
            return n;
        }

        int renewed(int place, int from, int to, int k) {
            int best = -1;
            int most = 0;
            for (int m = 0; m < meanings.size(); m++) {
                int n = changes(place, m, from, to, k);
                if (n > most) {
                    most = n;
                    best = m;
                }
            }
            return best;
        }

        boolean inTalk(int a, int b) {
            for (int[] t : talks) {
                if (t[0] == a && t[1] == b || t[0] == b && t[1] == a) {
                    return true;
                }
            }
            return false;
        }

        /** The first by numbers of the shortest ways: tried length by length, numbers upwards. */
        List<Integer> way(int s, int h, int m, int year, int k) {
            if (!in(m, meanings) || !speak(s, h, year, k)) {
                return null;
            }
            int n = persons.size();
            boolean[][] passes = new boolean[n][n];
            for (int a = 0; a < n; a++) {
                for (int b = 0; b < n; b++) {
                    passes[a][b] = inTalk(a, b) && speak(a, b, year, k) && gets(a, b, m, year, k);
                }
            }
            for (int length = 2; length <= n; length++) {
                List<Integer> way = new ArrayList<>(List.of(s));
                if (extend(way, h, length, passes)) {
                    return way;
                }
            }
            return null;
        }

        boolean extend(List<Integer> way, int h, int length, boolean[][] passes) {
            int last = way.get(way.size() - 1);
            if (way.size() == length) {
                return last == h;
            }
            if (!canReach(last, h, length - way.size(), passes)) {
                return false;
            }
            for (int p = 0; p < passes.length; p++) {
                if (passes[last][p] && !way.contains(p)) {
                    way.add(p);
                    if (extend(way, h, length, passes)) {
                        return true;
                    }
                    way.remove(way.size() - 1);
                }
            }
            return false;
        }

        boolean canReach(int from, int to, int steps, boolean[][] passes) {
            Set<Integer> at = new HashSet<>(Set.of(from));
            for (int i = 0; i < steps; i++) {
                Set<Integer> next = new HashSet<>();
                for (int a : at) {
                    for (int b = 0; b < passes.length; b++) {
                        if (passes[a][b]) {
                            next.add(b);
                        }
                    }
                }
                at = next;
            }
            return at.contains(to);
        }

        int safe(int place, int w) {
            if (!in(place, places) || !in(w, words)) {
                return -1;
            }
            for (int p = 0; p < persons.size(); p++) {
                if (persons.get(p).home == place && apart(w, p) <= places.get(place).alike) {
                    return 0;
                }
            }
            return 1;
        }

        int hurt(int place, int w, int year, int k) {
            if (!in(place, places) || !in(w, words) || !year(year)) {
                return -1000;
            }
            int n = 0;
            String name = words.get(w).name;
            for (Word v : words) {
                n += v.at.contains(place) && apart(v.name, name) <= places.get(place).alike ? 1 : 0;
            }
            for (int d = 0; d < persons.size(); d++) {
                Integer y = died(d, k);
                boolean so = persons.get(d).home == place && persons.get(d).called.equals(name);
                if (y != null && so && stands(d, y, year) && !places.get(place).back.equals("never")) {
                    n -= 3;
                }
            }
            return n;
        }

        int child(int place, int year, int k) {
            if (!in(place, places) || !year(year)) {
                return -1;
            }
            int best = -1;
            for (int w = words.size() - 1; w >= 0; w--) {
                boolean free = !heldAtPlace(place, w, year, k, Set.of());
                if (free && (best == -1 || hurt(place, w, year, k) <= hurt(place, best, year, k))) {
                    best = w;
                }
            }
            return best;
        }

        long mean(int place, int odds, int year, int part, int k) {
            if (!in(place, places) || !year(year) || odds < 0 || odds > 10 || part < 0 || part > 1) {
                return -1;
            }
            List<Integer> mortals = new ArrayList<>();
            for (int p = 0; p < persons.size(); p++) {
                if (persons.get(p).home == place && lives(p, year, k)) {
                    mortals.add(p);
                }
            }
            if (mortals.size() > 10) {
                return -2;
            }
            long upper = sum(mortals, 0, new HashSet<>(), 1, place, odds, year, k);
            long lower = 1;
            for (int i = 0; i < mortals.size(); i++) {
                lower *= 10;
            }
            long g = java.math.BigInteger.valueOf(upper).gcd(java.math.BigInteger.valueOf(lower)).longValue();
            return part == 0 ? upper / g : lower / g;
        }

        long sum(List<Integer> mortals, int i, Set<Integer> dead, long weight, int place, int odds, int year, int k) {
            if (weight == 0) {
                return 0;
            }
            if (i == mortals.size()) {
                int n = 0;
                for (int m = 0; m < meanings.size(); m++) {
                    n += now(place, m, year, k, dead) != -1 ? 1 : 0;
                }
                return n * weight;
            }
            long lives = sum(mortals, i + 1, dead, weight * (10 - odds), place, odds, year, k);
            Set<Integer> more = new HashSet<>(dead);
            more.add(mortals.get(i));
            return lives + sum(mortals, i + 1, more, weight * odds, place, odds, year, k);
        }

        int wish(int place, int year, int k) {
            if (!in(place, places) || !year(year)) {
                return -1;
            }
            Place p = places.get(place);
            String custom = p.custom;
            int alike = p.alike;
            int best = -1;
            int most = -1;
            String[] kinds = {"all", "kin", "before"};
            for (int i = 0; i < 12; i++) {
                p.custom = kinds[i / 4];
                p.alike = i % 4;
                int sum = 0;
                for (int s = 0; s < persons.size(); s++) {
                    for (int h = 0; h < persons.size(); h++) {
                        sum += Math.max(0, grasp(s, h, year, k));
                    }
                }
                if (sum > most) {
                    most = sum;
                    best = 10 * (i / 4) + i % 4;
                }
            }
            p.custom = custom;
            p.alike = alike;
            return best;
        }

        int old(int m, int what) {
            if (!in(m, meanings) || what < 0 || what > 1) {
                return -1;
            }
            int n = 0;
            int first = -1;
            for (int w = words.size() - 1; w >= 0; w--) {
                if (words.get(w).meaning == m && words.get(w).at.size() == places.size()) {
                    n++;
                    first = w;
                }
            }
            return n == 0 ? -1 : what == 0 ? n : first;
        }

        int about(int what) {
            int[] all = {places.size(), meanings.size(), words.size(), turns.size(), persons.size(), talks.size(),
                deaths.size(), time};
            return what >= 0 && what < all.length ? all[what] : -1;
        }
    }
}
