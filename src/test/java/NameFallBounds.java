import java.nio.charset.StandardCharsets;
import java.util.Arrays;

/**
 * Each sentence of the document that names a boundary case (too small, too large, empty, full, a
 * wrap-around, a refused call), in the document's order, with a test of its own.
 */
public final class NameFallBounds {
    private static final int LOW = Integer.MIN_VALUE;
    private static final int HIGH = Integer.MAX_VALUE;
    private static final int NONE = -1;

    private static final String[] KEYWORDS = {"place", "custom", "all", "kin", "before", "alike", "near", "years", "back", "never", "any",
        "own", "meaning", "word", "means", "at", "turn", "person", "called", "born", "of", "talk"};
    private static final String TAIL = " years 9 back any;";
    private static final String V = place("v", "all", 1, 1, 10, "own");
    private static final String M = V + "meaning a;meaning b;meaning c;";
    private static final String P = M + "person p called x at v born 0;person q called x at v born 1;person r called x at v born 2;";

    private static int wrong = 0;
    private static int asked = 0;
    private static String sentence = "";

    public static void main(String[] args) {
        landText();
        tokens();
        blanksAndLengths();
        names();
        kindsOfALand();
        meaningsAndWords();
        placesOfFaults();
        likeFaults();
        deathsAndTimes();
        deathsKnown();
        aliveApartAndNear();
        fallsAndBars();
        liftedBy();
        saidAndGrasped();
        valleysAndWays();
        changesAndRenewed();
        namesAndWishes();
        child();
        meanOfMany();
        likeWishes();
        tapeCalls();
        tapeBytes();
        landCalls();
        landRefused();
        faultOfTheLatest();
        deathCalls();
        laterCalls();
        questionsRefused();
        speakersRefused();
        answersOfNone();
        knownAtTimes();
        lastCalls();
        System.out.println(wrong == 0 ? "all bounds hold, " + asked + " answers" : wrong + " answers are not as due");
        if (wrong != 0) {
            System.exit(1);
        }
    }

    // ---- helpers

    /** What the document says, by its own words; all behind it belongs to it. */
    private static void says(String words) {
        sentence = words;
    }

    private static void due(String call, long got, long want) {
        asked++;
        if (got != want) {
            wrong++;
            System.out.println("\"" + sentence + "\": " + call + " answered " + got + ", due is " + want);
        }
    }

    private static void due(String call, boolean got, boolean want) {
        due(call, got ? 1 : 0, want ? 1 : 0);
    }

    private static void put(NameFall x, String text) {
        byte[] bytes = text.getBytes(StandardCharsets.ISO_8859_1);
        int begin = x.about(8);
        byte[] padded = Arrays.copyOf(bytes, (bytes.length + 19) / 20 * 20);
        for (int i = 0; i < padded.length; i += 20) {
            int[] n = new int[5];
            for (int j = 0; j < 20; j++) {
                n[j / 4] = n[j / 4] << 8 | padded[i + j] & 255;
            }
            due("feed", x.feed(n[0], n[1], n[2], n[3], n[4]), begin + i + 20);
        }
        due("end", x.end(begin + bytes.length), begin + bytes.length);
    }

    private static void lands(NameFall x, String text, int lines) {
        put(x, text);
        due("land of " + text, x.land(), lines);
        due("fault(0) of " + text, x.fault(0), 0);
        due("fault(1) of " + text, x.fault(1), NONE);
    }

    private static NameFall of(String text) {
        NameFall x = new NameFall();
        lands(x, text, (int) text.chars().filter(c -> c == ';').count());
        return x;
    }

    /** The text has the fault at the place where its mark ^ stands; it is not part of it. */
    private static void faulty(int fault, String marked) {
        int place = marked.indexOf('^');
        faultyAt(fault, place, marked.substring(0, place) + marked.substring(place + 1));
    }

    private static void faultyAt(int fault, int place, String text) {
        NameFall x = new NameFall();
        put(x, text);
        due("land of " + text, x.land(), NONE);
        due("fault(0) of " + text, x.fault(0), fault);
        due("fault(1) of " + text, x.fault(1), place);
        for (int what = 0; what <= 5; what++) {
            due("about(" + what + ") behind " + text, x.about(what), 0);
        }
    }

    private static String place(String name, String custom, int alike, int near, int years, String back) {
        return "place " + name + " custom " + custom + " alike " + alike + " near " + near + " years " + years + " back " + back + ";";
    }

    private static String person(String name, String called, String at, int born, String of) {
        return "person " + name + " called " + called + " at " + at + " born " + born + (of.isEmpty() ? "" : " of " + of) + ";";
    }

    /** The form for each number; ? stands for its letter, < for the letter ahead of it. */
    private static String each(String form, int from, int to) {
        StringBuilder b = new StringBuilder();
        for (int i = from; i < to; i++) {
            b.append(form.replace("?", "" + (char) ('a' + i)).replace("<", "" + (char) ('a' + i - 1)));
        }
        return b.toString();
    }

    private static String blanks(int count) {
        return " ".repeat(count);
    }

    // ---- ==== 1: the text

    private static void landText() {
        says("A LAND is a text of at most 1,600 bytes (empty at first)");
        NameFall x = new NameFall();
        for (int what = 0; what <= 5; what++) {
            due("about(" + what + ")", x.about(what), 0);
        }
        due("land of an empty tape", x.land(), 0);
        NameFall full = new NameFall();
        lands(full, "meaning a;" + blanks(1580) + "meaning b;", 2);
        due("about(1)", full.about(1), 2);
        lands(full, blanks(1600), 0);
        due("about(1)", full.about(1), 0);
        // what stands at the last byte of the longest text
        faultyAt(2, 1600, blanks(1592) + "meaning ");
        faultyAt(2, 1600, blanks(1584) + "meaning abcdefgh");
        faultyAt(1, 1591, blanks(1583) + "meaning abcdefghi");
        faultyAt(2, 1600, blanks(1575) + "place v custom all alike3");
        faultyAt(1, 1595, blanks(1570) + "place v custom all alike 12345");
        faultyAt(2, 1599, blanks(1599) + "a");
        faultyAt(1, 1599, blanks(1599) + "A");
    }

    private static void tokens() {
        says("1 no TOKEN");
        for (int sign = 0; sign < 256; sign++) {
            boolean blank = sign == 32 || sign == 10;
            boolean token = sign >= 'a' && sign <= 'z' || sign >= '0' && sign <= '9' || sign == ';';
            String text = "" + (char) sign;
            if (blank) {
                due("lines of byte " + sign, of(text).about(8), 0);
            } else {
                faultyAt(token ? 2 : 1, 0, text);
                // a letter is a NAME there, so that the end comes too early
                boolean name = sign >= 'a' && sign <= 'z';
                faultyAt(token ? 2 : 1, name ? 9 : 8, "meaning " + text);
            }
        }

        says("words (a .. z, 8 at most)");
        NameFall x = of("meaning a;meaning z;meaning abcdefgh;meaning abcdefgi;meaning abcdefg;meaning zzzzzzzz;");
        due("about(1)", x.about(1), 6);
        faulty(1, "meaning ^abcdefghi;");
        faulty(1, "meaning ^abcdefghijklm;");
        faulty(1, "^meaninggg a;");
        faulty(1, "meaning a;meaning ^" + "a".repeat(100));
        faulty(3, "meaning abcdefgh;meaning ^abcdefgh;");
        faulty(1, "meaning a^`;");
        faulty(1, "meaning a^{;");
        faulty(1, "meaning a^Z;");

        says("N (1 to 4 digits)");
        of("place v custom all alike 3 near 0004 years 0099 back any;");
        of("place v custom all alike 0 near 0" + TAIL);
        due("all four digits count", of(V + "person p called x at v born 0150;").alive(0, 149, 0), 0);
        faulty(4, V + "person p called x at v born ^0151;");
        faulty(4, V + "person p called x at v born ^1000;");
        faulty(1, "place v custom all alike ^00003 near 4" + TAIL);
        faulty(1, "place v custom all alike ^4294967297 near 4" + TAIL);
        faulty(4, "place v custom all alike ^9999 near 4" + TAIL);
        faulty(2, "place v custom all alike ^near 4" + TAIL);
        faulty(1, "place v custom all alike ^-1 near 4" + TAIL);
        faulty(1, "place v custom all alike 1^/ near 4" + TAIL);
        faulty(1, "place v custom all alike 1^: near 4" + TAIL);
    }

    private static void blanksAndLengths() {
        says("blanks (32, 10) part them or not");
        of("place v custom all alike3 near4 years9 back any;meaning m;word w means m at v;person p called x at v born0;");
        of("\n \n meaning\n\n  a \n ; \n meaning b\n;\n\n ");
        faulty(2, "^meaninga;");
        faulty(1, "meaning^\ta;");
        faulty(1, "meaning^\u00a0a;");
        faulty(1, "meaning^\u008aa;");

        says("each is as long as can be");
        of("meaning ab;meaning a;meaning b;" + V + "word w means ab at v;");
        faulty(5, "meaning ab;" + V + "word w means ^a b at v;");
        faulty(2, "^placev custom all");
        faulty(4, "place v custom all alike ^12 near 4" + TAIL);
        faulty(4, "place v custom all alike 1 near ^40" + TAIL);
        faulty(2, "place v custom all alike 1 ^2 near 4" + TAIL);

        says("no letter directly behind an N");
        faulty(1, "place v custom all alike ^3near 4" + TAIL);
        faulty(1, "place v custom all alike ^3a near 4" + TAIL);
        faulty(1, "place v custom all alike ^9z near 4" + TAIL);
        faulty(1, P + "person s called x at v born ^0of p;");
        of("place v custom all alike 3\nnear 4 years 9 back any;person p called x at v born 0;");
        faulty(2, "place v custom all alike 3^");
    }

    private static void names() {
        says("Words that stand for themselves here are no NAMES");
        for (String word : KEYWORDS) {
            faulty(2, "place ^" + word + " custom all");
            faulty(2, "meaning ^" + word + ";");
            faulty(2, M + "word ^" + word + " means a at v;");
            faulty(2, M + "word w means ^" + word + " at v;");
            faulty(2, M + "word w means a at ^" + word + ";");
            faulty(2, M + "word w means a at v ^" + word + ";");
            faulty(2, M + "turn ^" + word + " a b;");
            faulty(2, M + "turn a ^" + word + " b;");
            faulty(2, M + "turn a b ^" + word + ";");
            faulty(2, M + "person ^" + word + " called x at v born 0;");
            faulty(2, M + "person p called ^" + word + " at v born 0;");
            faulty(2, M + "person p called x at ^" + word + " born 0;");
            faulty(2, P + "person s called x at v born 0 of ^" + word + ";");
            faulty(2, P + "person s called x at v born 0 of p ^" + word + ";");
            faulty(2, P + "talk ^" + word + " p;");
            faulty(2, P + "talk p ^" + word + ";");
            if (word.length() < 8) {
                of("meaning " + word + "s;meaning " + word.substring(0, word.length() - 1) + "q;meaning x" + word + ";");
            }
        }
    }

    private static void kindsOfALand() {
        says("At most 4 PLACES");
        String places = each(place("?", "all", 1, 1, 1, "any"), 0, 4);
        due("about(0)", of(places).about(0), 4);
        faulty(2, places + "^place e custom all alike 1 near 1 years 1 back any;");
        faulty(2, places + "^place");

        says("alike 0 .. 3");
        of(place("v", "all", 0, 1, 1, "any") + place("u", "kin", 3, 1, 1, "any"));
        faulty(4, "place v custom all alike ^4 near 1 years 1 back any;");
        says("near 0 .. 4");
        of(place("v", "all", 1, 0, 1, "any") + place("u", "kin", 1, 4, 1, "any"));
        faulty(4, "place v custom all alike 1 near ^5 years 1 back any;");
        says("years 1 .. 99");
        of(place("v", "all", 1, 1, 1, "any") + place("u", "kin", 1, 1, 99, "any"));
        faulty(4, "place v custom all alike 1 near 1 years ^0 back any;");
        faulty(4, "place v custom all alike 1 near 1 years ^100 back any;");

        says("custom (all | kin | before) .. back (never | any | own)");
        for (String word : KEYWORDS) {
            boolean custom = word.equals("all") || word.equals("kin") || word.equals("before");
            boolean back = word.equals("never") || word.equals("any") || word.equals("own");
            String ahead = "place v custom ";
            String behind = " alike 1 near 1 years 1 back ";
            if (custom) {
                of(ahead + word + behind + "any;");
            } else {
                faulty(2, ahead + "^" + word + behind + "any;");
            }
            if (back) {
                of(ahead + "all" + behind + word + ";");
            } else {
                faulty(2, ahead + "all" + behind + "^" + word + ";");
            }
        }
    }

    private static void meaningsAndWords() {
        says("8 MEANINGS");
        String meanings = each("meaning ?;", 0, 8);
        due("about(1)", of(meanings).about(1), 8);
        faulty(2, meanings + "^meaning i;");
        faulty(2, meanings + "^meaning");

        says("24 WORDS");
        String words = V + "meaning m;" + each("word ? means m at v;", 0, 24);
        due("about(2)", of(words).about(2), 24);
        faulty(2, words + "^word y means m at v;");
        faulty(2, words + "^word a");
        wordsAtPlaces();
        turns();
        persons();
        talks();
    }

    private static void wordsAtPlaces() {
        String two = V + place("u", "kin", 1, 1, 1, "any") + "meaning a;meaning b;";
        says("of a MEANING, at PLACES told ahead");
        faulty(5, two + "word w means ^c at v;meaning c;");
        faulty(5, two + "word w means a at ^w;" + place("w", "kin", 1, 1, 1, "any"));
        faulty(5, two + "word w means a at v u ^w;");
        faulty(2, two + "word w means a at ^;");
        says("none twice");
        faulty(3, two + "word w means a at v ^v;");
        faulty(3, two + "word w means a at v u ^v;");
        faulty(3, two + "word w means a at u v ^v;");
        faulty(3, two + "word w means a at v;word ^w means b at u;");
        String four = each(place("?", "all", 1, 1, 1, "any"), 0, 4) + "meaning m;";
        due("at all four", of(four + "word w means m at d c b a;").old(0, 0), 1);
        faulty(3, four + "word w means m at d c b a ^d;");
        says("there it comes behind those told ahead in the ROW of that MEANING");
        NameFall x = of(two + "word w means a at u;word k means a at v u;word l means a at v;word n means b at u v;");
        due("of v", x.today(0, 0, 0, 0), 1);
        due("of u", x.today(1, 0, 0, 0), 0);
        due("of v, b", x.today(0, 1, 0, 0), 3);
        due("of u, b", x.today(1, 1, 0, 0), 3);
    }

    private static void turns() {
        says("10 turns");
        String turns = "meaning a;meaning b;meaning c;" + each("turn a b c;", 0, 10);
        due("about(3)", of(turns).about(3), 10);
        faulty(2, turns + "^turn a b c;");
        faulty(2, turns + "^turn");
        says("a MEANING, told ahead, by two others, told ahead; they may be alike, but not the first");
        String ab = "meaning a;meaning b;";
        due("alike, and told twice", of(ab + "turn a b b;turn a b b;").about(3), 2);
        faulty(3, ab + "turn a ^a b;");
        faulty(3, ab + "turn a b ^a;");
        faulty(3, ab + "turn b ^b b;");
        faulty(5, ab + "turn ^c a b;meaning c;");
        faulty(5, ab + "turn a ^c b;meaning c;");
        faulty(5, ab + "turn a b ^c;meaning c;");
        faulty(2, ab + "turn a b ^;");
        faulty(2, ab + "turn a b b ^b;");
    }

    private static void persons() {
        says("12 PERSONS");
        String persons = V + each("person ? called x at v born 1;", 0, 12);
        due("about(4)", of(persons).about(4), 12);
        faulty(2, persons + "^person m called x at v born 1;");
        faulty(2, persons + "^person");
        says("called any NAME");
        NameFall x = of(V + "meaning m;word w means m at v;" + person("p", "p", "v", 0, "") + person("q", "p", "v", 0, "")
            + person("r", "v", "v", 0, "") + person("s", "abcdefgh", "v", 0, ""));
        due("about(4)", x.about(4), 4);
        faulty(1, V + "person p called ^abcdefghi at v born 0;");
        says("at a PLACE");
        faulty(5, V + "person p called x at ^u born 0;" + place("u", "kin", 1, 1, 1, "any"));
        faulty(2, V + "person p called x at v ^v born 0;");
        says("born 0 .. 150");
        NameFall born = of(V + person("p", "x", "v", 0, "") + person("q", "x", "v", 150, ""));
        due("at 0", born.alive(0, 0, 0), 1);
        due("at 149", born.alive(1, 149, 0), 0);
        due("at 150", born.alive(1, 150, 0), 1);
        faulty(4, V + "person p called x at v born ^151;");
        faulty(4, V + "person p called x at v born ^9999;");
        says("of one or two others, told ahead");
        due("about(4)", of(P + person("s", "x", "v", 0, "p") + person("t", "x", "v", 0, "p q")).about(4), 5);
        faulty(2, P + "person s called x at v born 0 of ^;");
        faulty(2, P + "person s called x at v born 0 of p q ^r;");
        faulty(5, P + "person s called x at v born 0 of ^s;");
        faulty(5, P + "person s called x at v born 0 of p ^s;");
        faulty(5, P + "person s called x at v born 0 of ^t;person t called x at v born 0;");
        faulty(5, P + "person s called x at v born 0 of ^x;");
    }

    private static void talks() {
        says("20 talks");
        StringBuilder talks = new StringBuilder(V + each("person ? called x at v born 1;", 0, 12));
        talks.append(each("talk a ?;", 1, 12)).append(each("talk b ?;", 2, 11));
        due("about(5)", of(talks.toString()).about(5), 20);
        faulty(2, talks + "^talk b l;");
        faulty(2, talks + "^talk");
        says("of two PERSONS");
        faulty(2, P + "talk p ^;");
        faulty(2, P + "talk p q ^r;");
        faulty(5, P + "talk p ^v;");
        faulty(5, P + "talk ^x p;");

        says("numbered as told");
        NameFall x = of(place("v", "all", 0, 0, 1, "any") + place("u", "all", 3, 0, 1, "any") + "meaning a;meaning b;"
            + "word k means b at u;word l means a at v;" + person("p", "k", "u", 0, "") + person("q", "l", "v", 5, "p"));
        due("the second place", x.today(1, 1, 0, 0), 0);
        due("the first place", x.today(0, 0, 0, 0), 1);
        due("the second person", x.alive(1, 4, 0), 0);
        due("word 0, person 0", x.apart(0, 0), 0);
        due("word 1, person 1", x.apart(1, 1), 0);
        due("word 1, person 0", x.apart(1, 0), 1);
    }

    private static void placesOfFaults() {
        says("FAULTS, the first by its place (bytes from 0");
        faulty(1, "^A");
        faulty(2, "^a");
        faulty(3, "meaning a;meaning ^a;meaning A;");
        faulty(1, "meaning a;meaning ^A;meaning a;");
        faulty(4, "place v custom all alike ^9 near 9 years 0 back x;");
        faulty(5, M + "turn a ^x a;turn a a;");
        faulty(2, "meaning a;^meanin b;meaning a;");
        says("2 one that can't stand there");
        for (String line : new String[] {"place u custom all alike 1 near 1 years 1 back any ;", "meaning d ;", "word w means a at v ;",
            "turn a b c ;", "person s called x at v born 1 ;", "person s called x at v born 1 of p ;", "person s called x at v born 1 of p q ;", "talk p q ;"}) {
            wrongTokens(P, line);
        }
        says("the end: the text's length");
        faulty(2, "meaning^");
        faulty(2, "meaning ^");
        faulty(2, "meaning a^");
        faulty(2, "meaning a \n  ^");
        String all = M + "word w means a at v;turn a b c;" + person("p", "x", "v", 0, "") + person("q", "x", "v", 0, "")
            + person("r", "x", "v", 0, "p q") + "talk p q;";
        for (int cut = 0; cut < all.length(); cut++) {
            cutAt(all, cut);
        }
    }

    private static void likeFaults() {
        says("at one place the least");
        faulty(1, "^$ a;");
        faulty(1, "meaning ^$;");
        faulty(1, "meaning a ^$");
        faulty(1, "place v custom all alike ^99999 near 1");
        faulty(1, "place v custom all alike ^9near 1");
        faulty(1, M + "turn a b ^abcdefghi;");
        faulty(1, P + "talk p ^pppppppppp;");
        says("one of a kind too many: at the line's first word");
        String meanings = each("meaning ?;", 0, 8);
        faulty(2, meanings + "\n ^meaning $;");
        faulty(2, meanings + "^meaning a;");
        faulty(2, meanings + "^meaning 5");
        says("3 a NAME told already (of its own kind");
        of(place("x", "all", 0, 0, 1, "any") + "meaning x;word x means x at x;" + person("x", "x", "x", 0, ""));
        faulty(3, V + "place ^v custom all");
        faulty(3, M + "meaning ^b;");
        faulty(3, M + "word w means a at v;word ^w $");
        faulty(3, P + "person ^q called $");
        says("both parents, both of a talk one and the same");
        faulty(3, P + "person s called x at v born 0 of p ^p;");
        faulty(3, P + "talk q ^q;");
        says("a talk told already (either way; at its second NAME)");
        faulty(3, P + "talk p q;talk p ^q;");
        faulty(3, P + "talk p q;talk q ^p;");
        faulty(3, P + "talk p q;talk q r;talk r p;talk p ^r;");
        of(P + "talk p q;talk q r;talk r p;");
    }

    /** In the place of each TOKEN of a line one of each other kind. */
    private static void wrongTokens(String ahead, String line) {
        String[] right = line.split(" ");
        String text = ahead;
        for (int i = 0; i < right.length; i++) {
            for (String token : new String[] {"zz", "7", ";", "talk", "of", "at"}) {
                if (!stands(line, right, i, token)) {
                    faultyAt(2, text.length(), text + token + " ;");
                }
            }
            text += right[i] + " ";
        }
    }

    private static boolean stands(String line, String[] right, int i, String token) {
        boolean name = token.equals("zz");
        boolean number = token.equals("7");
        if (i == 0) {
            return token.equals("talk");
        }
        if (right[i].equals(";")) {
            boolean oneMore = line.startsWith("word") || right.length == 11 && line.startsWith("person");
            boolean parents = right.length == 9 && line.startsWith("person");
            return token.equals(";") || name && oneMore || token.equals("of") && parents;
        }
        if (Character.isDigit(right[i].charAt(0))) {
            return number;
        }
        boolean couldEnd = right[i].equals("of") || right[i - 1].equals("p") && right[i].equals("q") && line.startsWith("person");
        if (couldEnd && token.equals(";")) {
            return true;
        }
        return Arrays.asList(KEYWORDS).contains(right[i]) ? token.equals(right[i]) : name;
    }

    /** Cut short, a text has no fault at a line's end, else one at its length. */
    private static void cutAt(String text, int cut) {
        String part = text.substring(0, cut);
        int end = part.trim().isEmpty() || part.trim().endsWith(";") ? 0 : 2;
        NameFall x = new NameFall();
        put(x, text);
        due("end", x.end(cut), cut);
        x.land();
        boolean inWord = cut > 0 && Character.isLetter(text.charAt(cut - 1)) && Character.isLetter(text.charAt(cut));
        if (!inWord) {
            due("fault(0) of " + part, x.fault(0), end);
            due("fault(1) of " + part, x.fault(1), end == 0 ? NONE : cut);
        }
    }

    // ---- ==== 2: deaths, falls

    private static void deathsAndTimes() {
        says("DEATHS, 60 at most");
        NameFall x = of(P);
        for (int i = 0; i < 60; i++) {
            due("die", x.die(i % 3, 100 + i), i);
        }
        due("die", x.die(0, 100), NONE);
        due("about(6)", x.about(6), 60);
        due("alive in 156", x.alive(0, 156, 0), 1);
        due("alive in 157", x.alive(0, 157, 0), 0);
        due("alive in 158", x.alive(2, 158, 0), 1);
        due("alive in 159", x.alive(2, 159, 0), 0);

        says("are TOLD at a TIME (0 at first, goes on)");
        due("about(7)", new NameFall().about(7), 0);
        NameFall y = of(P);
        y.die(0, 50);
        y.later(1);
        y.die(1, 50);
        due("told at 0, known at -1", y.alive(0, 50, -1), 1);
        due("told at 0, known at 0", y.alive(0, 50, 0), 0);
        due("told at 1, known at 0", y.alive(1, 50, 0), 1);
        due("told at 1, known at 1", y.alive(1, 50, 1), 0);

        says("UNTOLD at a later one or the same");
        y.die(2, 50);
        due("at the same", y.untell(2), true);
        due("never known at 1", y.alive(2, 50, 1), 1);
        due("never known at 0", y.alive(2, 50, 0), 1);
        due("never known later", y.alive(2, 50, HIGH), 1);
        due("at a later one", y.untell(0), true);
        due("known at 0", y.alive(0, 50, 0), 0);
        due("not known at 1", y.alive(0, 50, 1), 1);

        says("in a YEAR (0 .. 199, not ahead of that in which they were born)");
        NameFall z = of(V + person("p", "x", "v", 0, "") + person("q", "x", "v", 150, ""));
        due("-1", z.die(0, -1), NONE);
        due("200", z.die(0, 200), NONE);
        due("149", z.die(1, 149), NONE);
        due("0", z.die(0, 0), 0);
        due("199", z.die(0, 199), 1);
        due("150", z.die(1, 150), 2);
    }

    private static void deathsKnown() {
        says("that were TOLD at k or before, not UNTOLD at k or before");
        NameFall w = of(P);
        w.later(5);
        w.die(0, 50);
        w.later(4);
        w.untell(0);
        int[] times = {LOW, -1, 0, 4, 5, 6, 8, 9, 10, HIGH};
        for (int k : times) {
            due("alive as known at " + k, w.alive(0, 50, k), k >= 5 && k < 9 ? 0 : 1);
        }

        says("of a PERSON that alone which was TOLD last");
        NameFall t = of(P);
        t.die(0, 50);
        t.die(0, 90);
        due("at one time the higher number", t.alive(0, 60, 0), 1);
        t.later(2);
        t.die(0, 20);
        due("known at 1", t.alive(0, 60, 1), 1);
        due("known at 2", t.alive(0, 20, 2), 0);
        t.later(2);
        t.untell(2);
        due("the one ahead counts again", t.alive(0, 89, 4), 1);
        due("the one ahead counts again", t.alive(0, 90, 4), 0);
        t.untell(0);
        due("the last told stays", t.alive(0, 89, 4), 1);
        t.untell(1);
        due("none is left", t.alive(0, 199, 4), 1);
        due("as known at 3", t.alive(0, 20, 3), 0);
    }

    private static void aliveApartAndNear() {
        says("ALIVE in a YEAR from that in which they were born to the one ahead of that in which they died");
        NameFall a = of(V + person("p", "x", "v", 10, "") + person("q", "x", "v", 10, ""));
        a.die(0, 12);
        a.die(1, 10);
        int[] alive = {0, 1, 1, 0, 0};
        for (int year = 9; year <= 13; year++) {
            due("one in " + year, a.alive(0, year, 0), alive[year - 9]);
            due("one who died as born, in " + year, a.alive(1, year, 0), 0);
        }
        due("in 0", a.alive(0, 0, 0), 0);
        due("in 199", a.alive(0, 199, 0), 0);

        says("APART: of two words the fewest letters put in, left out or changed");
        NameFall b = of(V + "meaning m;word a means m at v;word abcdefgh means m at v;" + person("p", "a", "v", 0, "")
            + person("q", "abcdefgh", "v", 0, "") + person("r", "zzzzzzzz", "v", 0, "") + person("s", "h", "v", 0, "")
            + person("t", "z", "v", 0, "") + person("u", "bacdefhg", "v", 0, "") + person("w", "habcdefg", "v", 0, ""));
        int[] ofA = {0, 7, 8, 1, 1, 7, 7};
        int[] ofEight = {7, 0, 8, 7, 8, 4, 2};
        for (int i = 0; i < ofA.length; i++) {
            due("a and person " + i, b.apart(0, i), ofA[i]);
            due("abcdefgh and person " + i, b.apart(1, i), ofEight[i]);
        }

        says("NEAR: .. the fewest steps .. (0: the same; 99: none)");
        NameFall chain = of(V + person("a", "x", "v", 0, "") + each("person ? called x at v born 0 of <;", 1, 11) + person("l", "x", "v", 0, ""));
        for (int i = 0; i < 11; i++) {
            for (int j = 0; j < 11; j++) {
                due("near " + i + ", " + j, chain.near(i, j), Math.abs(i - j));
            }
            due("none", chain.near(i, 11), 99);
            due("none", chain.near(11, i), 99);
        }
        due("the same", chain.near(11, 11), 0);
        NameFall longest = of(V + person("a", "x", "v", 0, "") + each("person ? called x at v born 0 of <;", 1, 12));
        due("twelve in a row", longest.near(0, 11), 11);
    }

    private static void fallsAndBars() {
        says("all words FALL that are APART from what d was called by no more than alike of d's PLACE");
        String words = "meaning m;word abcdefgh means m at v;word abcdefg means m at v;word abcdef means m at v;"
            + "word abcde means m at v;word abcd means m at v;";
        String people = person("p", "abcdefgh", "v", 0, "") + person("q", "zz", "v", 0, "p") + person("r", "zz", "v", 0, "p");
        for (String custom : new String[] {"all", "kin", "before"}) {
            for (int alike = 0; alike <= 3; alike++) {
                NameFall x = of(place("v", custom, alike, 1, 1, "never") + words + people);
                x.die(0, 50);
                for (int word = 0; word < 5; word++) {
                    due(custom + " " + alike + ", word " + word, x.may(1, 2, word, 50, 0), word <= alike ? 0 : 1);
                }
            }
        }

        says("from y on .. for as many years as it has (99: for ever)");
        for (int years : new int[] {1, 2, 10, 98, 99}) {
            for (int y : new int[] {0, 50, 101, 199}) {
                NameFall x = of(place("v", "all", 0, 0, years, "never") + words + people);
                x.die(0, y);
                for (int year = 0; year <= 199; year++) {
                    boolean barred = year >= y && (years == 99 || year < y + years);
                    due(years + " years from " + y + ", in " + year, x.today(0, 0, year, 0), barred ? 1 : 0);
                }
            }
        }
        lifted();
        bound();

        says("JUDGE: a saying, WORDS one behind the other: the first that is BARRED");
        NameFall x = of(place("v", "all", 0, 0, 9, "never") + words + people);
        x.die(0, 50);
        int free = 2;
        for (int at = 0; at < 5; at++) {
            int saying = 0;
            int two = 0;
            for (int i = 4; i >= 0; i--) {
                saying = saying * 32 + (i == at ? 1 : free);
                two = two * 32 + (i >= at ? 1 : free);
            }
            due("barred at " + at, x.judge(1, 2, saying, 50, 0), at);
            due("barred from " + at + " on", x.judge(1, 2, two, 50, 0), at);
        }
    }

    private static void lifted() {
        says("LIFTED from the YEAR on in which another PERSON is born, y or later, that is called the same");
        for (String back : new String[] {"never", "any", "own"}) {
            for (int born : new int[] {49, 50, 51, 60}) {
                NameFall x = of(place("v", "all", 0, 0, 20, back) + "meaning m;word ab means m at v;" + person("p", "ab", "v", 10, "")
                    + person("q", "ab", "v", born, "p"));
                x.die(0, 50);
                for (int year = 49; year <= 71; year++) {
                    boolean lifted = !back.equals("never") && born >= 50 && year >= born;
                    boolean held = year >= 50 && year < 70 && !lifted;
                    due(back + ", born " + born + ", in " + year, x.today(0, 0, year, 0), held ? NONE : 0);
                }
            }
        }
        NameFall self = of(place("v", "all", 0, 0, 20, "any") + "meaning m;word ab means m at v;" + person("p", "ab", "v", 10, "")
            + person("q", "abc", "v", 12, "p"));
        self.die(0, 10);
        due("not by oneself", self.today(0, 0, 10, 0), NONE);
        due("not by one called nearly so", self.today(0, 0, 12, 0), NONE);
    }

    private static void liftedBy() {
        says("never, by any, by one who comes from d (child of, child of a child, ..; own)");
        String form = "meaning m;word ab means m at v;" + person("g", "gg", "v", 0, "") + person("d", "ab", "v", 10, "g")
            + person("s", "%s", "v", 60, "g") + person("c", "%s", "v", 60, "s d") + person("e", "zz", "v", 0, "d")
            + person("f", "zz", "v", 0, "e") + person("h", "%s", "v", 60, "f") + person("o", "%s", "v", 60, "");
        String[] who = {"a sibling", "a child", "a child's child's child", "no kin"};
        for (int one = 0; one < 4; one++) {
            String[] called = {"zz", "zz", "zz", "zz"};
            called[one] = "ab";
            String text = String.format(form, (Object[]) called);
            for (String back : new String[] {"never", "any", "own"}) {
                NameFall x = of(place("v", "all", 0, 0, 99, back) + text);
                x.die(1, 50);
                boolean lifts = back.equals("any") || back.equals("own") && (one == 1 || one == 2);
                due(back + ", " + who[one] + ", ahead", x.today(0, 0, 59, 0), NONE);
                due(back + ", " + who[one], x.today(0, 0, 60, 0), lifts ? 0 : NONE);
            }
        }
        // one from whom d comes does not come from d
        NameFall parent = of(place("v", "all", 0, 0, 99, "own") + "meaning m;word ab means m at v;" + person("p", "ab", "v", 60, "")
            + person("d", "ab", "v", 10, "p"));
        parent.die(1, 50);
        due("a parent", parent.today(0, 0, 60, 0), NONE);
        NameFall first = of(place("v", "all", 0, 0, 99, "any") + "meaning m;word ab means m at v;" + person("p", "ab", "v", 60, "") + person("d", "ab", "v", 10, ""));
        first.die(1, 50);
        due("ahead of the first", first.today(0, 0, 59, 0), NONE);
        due("by the first", first.today(0, 0, 60, 0), 0);
        // it is the PLACE of who died that counts, not of who is born
        NameFall away = of(place("v", "all", 0, 0, 99, "any") + place("u", "all", 0, 0, 99, "never") + "meaning m;word ab means m at v u;"
            + person("p", "ab", "v", 10, "") + person("q", "ab", "u", 60, "") + person("r", "ab", "v", 70, ""));
        away.die(0, 50);
        away.die(1, 65);
        due("lifted by one of another place", away.today(0, 0, 60, 0), 0);
        due("never", away.today(1, 0, 70, 0), NONE);
    }

    private static void bound() {
        says("all: who speaks is of that PLACE; kin: who speaks is NEAR d by no more than near; before: who hears is");
        String two = "meaning m;word ab means m at v u;";
        // each the child of the one ahead: NEAR the first by 0, 1, 2, 3, 4, 5; and one of no kin
        String people = person("a", "ab", "v", 0, "") + person("b", "zz", "u", 0, "a") + person("c", "zz", "u", 0, "b")
            + person("d", "zz", "u", 0, "c") + person("e", "zz", "u", 0, "d") + person("f", "zz", "u", 0, "e")
            + person("g", "zz", "u", 0, "") + person("h", "zz", "v", 0, "");
        for (int near = 0; near <= 4; near++) {
            NameFall all = of(place("v", "all", 0, near, 99, "never") + place("u", "all", 0, 4, 99, "never") + two + people);
            NameFall kin = of(place("v", "kin", 0, near, 99, "never") + place("u", "all", 0, 4, 99, "never") + two + people);
            NameFall before = of(place("v", "before", 0, near, 99, "never") + place("u", "all", 0, 4, 99, "never") + two + people);
            all.die(0, 50);
            kin.die(0, 50);
            before.die(0, 50);
            for (int one = 1; one <= 6; one++) {
                int steps = one == 6 ? 99 : one;
                due("all, of another place: " + one, all.may(one, 7, 0, 50, 0), 1);
                due("all, of that place to " + one, all.may(7, one, 0, 50, 0), 0);
                due("kin, near " + near + ": " + one, kin.may(one, 7, 0, 50, 0), steps <= near ? 0 : 1);
                due("kin, near " + near + " to " + one, kin.may(7, one, 0, 50, 0), 1);
                due("before, near " + near + ": " + one, before.may(one, 7, 0, 50, 0), 1);
                due("before, near " + near + " to " + one, before.may(7, one, 0, 50, 0), steps <= near ? 0 : 1);
            }
        }
    }

    // ---- ==== 3: what is said, grasped and told

    private static void saidAndGrasped() {
        says("INSTEAD: .. the first WORD of the ROW of the speaker's PLACE that is not BARRED; else of the ROWS of PLACES 0, 1, .. (borrowed); none else");
        NameFall x = of(each(place("?", "kin", 0, 1, 99, "never"), 0, 4) + "meaning m;meaning n;"
            + "word k means m at d;word l means m at c;word o means m at b;word q means m at b;word u means n at d;"
            + person("p", "zz", "b", 0, "") + person("q", "zz", "a", 0, "") + person("a", "o", "a", 0, "p") + person("b", "q", "a", 0, "p")
            + person("c", "l", "a", 0, "p") + person("d", "k", "a", 0, "p"));
        int[] said = {2, 3, 1, 0, NONE};
        for (int dead = 0; dead <= 4; dead++) {
            due("with " + dead + " dead", x.instead(0, 1, 0, 50, 0), said[dead]);
            due("with " + dead + " dead, a word borrowed of the last place", x.instead(0, 1, 1, 50, 0), 4);
            due("with " + dead + " dead, one of no row", x.instead(1, 0, 0, 50, 0), 2);
            x.die(2 + dead, 50);
        }

        says("COST: 1, if there is one; else by turns the least sum of both others' COSTS; none if by none");
        String v = place("v", "all", 0, 0, 99, "never") + each("meaning ?;", 0, 8);
        String two = person("p", "zz", "v", 0, "") + person("q", "zz", "v", 0, "");
        NameFall chain = of(v + "word w means a at v;" + each("turn ? < <;", 1, 8) + two);
        for (int meaning = 0; meaning < 8; meaning++) {
            due("meaning " + meaning, chain.cost(0, 1, meaning, 0, 0), 1 << meaning);
        }
        NameFall back = of(v + "word w means a at v;turn h g g;turn g f f;turn f e e;turn e d d;turn d c c;turn c b b;turn b a a;" + two);
        due("the turns told from the far end", back.cost(0, 1, 7, 0, 0), 128);
        NameFall rings = of(v + "word w means a at v;turn b c a;turn c b a;turn d e a;turn e d d;turn f g a;turn g f a;turn g a a;" + two);
        for (int meaning = 1; meaning <= 4; meaning++) {
            due("a ring by itself, meaning " + meaning, rings.cost(0, 1, meaning, 0, 0), NONE);
        }
        due("a ring with a way out", rings.cost(0, 1, 5, 0, 0), 3);
        due("without a turn", rings.cost(0, 1, 7, 0, 0), NONE);
        for (String turns : new String[] {"turn b a a;turn c a a;turn c b a;turn c a b;turn c b b;", "turn c b b;turn c a b;turn c b a;turn c a a;turn b a a;",
            "turn b a a;turn c b b;turn c a b;turn c a a;", "turn b a a;turn c b b;turn c b a;turn c a a;"}) {
            due("the least of " + turns, of(v + "word w means a at v;" + turns + two).cost(0, 1, 2, 0, 0), 2);
        }
        NameFall half = of(v + "word w means a at v;turn c a b;turn c b a;" + two);
        due("one of both has none", half.cost(0, 1, 2, 0, 0), NONE);

        says("GRASP: of MEANINGS told by a WORD (INSTEAD) those of which that is in the ROW of the hearer's PLACE");
        NameFall g = of(place("v", "all", 0, 0, 99, "never") + place("u", "all", 0, 0, 99, "never") + each("meaning ?;", 0, 8)
            + each("word ? means ? at v u;", 0, 8) + person("p", "zz", "v", 0, "") + person("q", "zz", "u", 0, ""));
        due("all eight", g.grasp(0, 1, 0, 0), 8);
        NameFall none = of(place("v", "all", 0, 0, 99, "never") + "meaning a;meaning b;turn b a a;" + two);
        due("no word", none.grasp(0, 1, 0, 0), 0);
        NameFall bare = of(place("v", "all", 0, 0, 99, "never") + two);
        due("no meaning", bare.grasp(0, 1, 0, 0), 0);
    }

    private static void valleysAndWays() {
        says("TODAY of a PLACE and a MEANING: the first WORD of its ROW that no FALL by a custom of all of that PLACE holds");
        String form = "meaning m;word ab means m at v u;word cd means m at v;" + person("p", "ab", "v", 0, "") + person("q", "cd", "v", 0, "");
        NameFall x = of(place("v", "all", 0, 4, 99, "never") + place("u", "all", 0, 4, 99, "never") + form);
        due("none is dead", x.today(0, 0, 50, 0), 0);
        x.die(0, 50);
        due("the next", x.today(0, 0, 50, 0), 1);
        due("not borrowed, but of u's own", x.today(1, 0, 50, 0), 0);
        x.die(1, 51);
        due("none is left", x.today(0, 0, 51, 0), NONE);
        for (String custom : new String[] {"kin", "before"}) {
            NameFall y = of(place("v", custom, 0, 4, 99, "never") + place("u", "all", 0, 4, 99, "never") + form);
            y.die(0, 50);
            due(custom + " holds nothing", y.today(0, 0, 50, 0), 0);
        }

        says("PARTED: MEANINGS of which two PLACES' TODAYS are not the same WORD (or only one has none)");
        NameFall p = of(place("v", "all", 0, 0, 99, "never") + place("u", "all", 0, 0, 99, "never") + each("meaning ?;", 0, 8)
            + "word a means a at v u;word b means b at v;word c means c at u;word e means e at v;word f means e at u;");
        due("same, one, other, both none, two", p.parted(0, 1, 0, 0), 3);
        due("the other way", p.parted(1, 0, 0, 0), 3);
        due("with itself", p.parted(1, 1, 0, 0), 0);
        NameFall eight = of(place("v", "all", 0, 0, 99, "never") + place("u", "all", 0, 0, 99, "never") + each("meaning ?;word ? means ? at v;", 0, 8));
        due("all eight", eight.parted(0, 1, 0, 0), 8);
    }

    private static void changesAndRenewed() {
        says("CHANGES from a YEAR to another one: how often TODAY is another one than the YEAR ahead");
        String one = place("v", "all", 0, 0, 10, "never") + "meaning m;word ab means m at v;word cd means m at v;"
            + person("p", "ab", "v", 0, "") + person("q", "cd", "v", 0, "");
        NameFall c = of(one);
        c.die(0, 50);
        int[][] spans = {{49, 50, 1}, {48, 49, 0}, {50, 51, 0}, {50, 59, 0}, {50, 60, 1}, {59, 60, 1}, {60, 61, 0}, {49, 60, 2}, {0, 199, 2},
            {0, 1, 0}, {198, 199, 0}, {0, 49, 0}, {60, 199, 0}};
        for (int[] span : spans) {
            due("from " + span[0] + " to " + span[1], c.changes(0, 0, span[0], span[1], 0), span[2]);
        }
        NameFall first = of(one);
        first.die(0, 0);
        due("no year is ahead of 0", first.changes(0, 0, 0, 9, 0), 0);
        due("back at 10", first.changes(0, 0, 0, 10, 0), 1);
        NameFall last = of(one);
        last.die(0, 199);
        due("in the last year", last.changes(0, 0, 198, 199, 0), 1);
        due("ahead of it", last.changes(0, 0, 0, 198, 0), 0);
        c.die(1, 52);
        due("to none, and on", c.changes(0, 0, 0, 199, 0), 3);

        says("RENEWED: the MEANING with most of them; of like ones the first");
        NameFall r = of(place("v", "all", 0, 0, 10, "never") + "meaning a;meaning b;meaning c;word k means b at v;word l means c at v;word n means c at v;"
            + person("p", "k", "v", 0, "") + person("q", "l", "v", 0, "") + person("r", "n", "v", 0, ""));
        r.die(0, 50);
        r.die(1, 50);
        due("like ones", r.renewed(0, 0, 199, 0), 1);
        r.die(2, 55);
        due("the most", r.renewed(0, 0, 199, 0), 2);
        due("like ones in that time", r.renewed(0, 49, 50, 0), 1);
        due("one alone in that time", r.renewed(0, 50, 55, 0), 2);
        due("none in that time", r.renewed(0, 0, 49, 0), NONE);
        NameFall most = of(place("v", "all", 0, 0, 10, "never") + each("meaning ?;word ? means ? at v;", 0, 8) + person("p", "h", "v", 0, "") + person("q", "h", "v", 0, ""));
        most.die(0, 50);
        due("the last of eight", most.renewed(0, 0, 199, 0), 7);
        lands(most, place("v", "all", 0, 0, 10, "never") + each("meaning ?;", 0, 7), 8);
        due("not what an earlier land had", most.renewed(0, 0, 199, 0), NONE);
        ways();
    }

    private static void ways() {
        String head = place("v", "all", 0, 0, 99, "never") + place("u", "all", 0, 0, 99, "never") + "meaning m;meaning n;word w means m at v u;word k means n at v;";
        String twelve = each("person ? called zz at v born 0;", 0, 12);
        says("TELL: PERSONS one behind the other, .. each in talk with the next");
        NameFall x = of(head + twelve + each("talk ? <;", 1, 12));
        for (int i = 0; i < 12; i++) {
            for (int j = 0; j < 12; j++) {
                due("from " + i + " to " + j, x.tell(i, j, 0, 0, 0), i == j ? NONE : Math.abs(i - j) + 1);
            }
            due("told " + i, x.told(0, 11, 0, 0, i, 0), i);
            due("told back " + i, x.told(11, 0, 0, 0, i, 0), 11 - i);
        }
        due("told 12", x.told(0, 11, 0, 0, 12, 0), NONE);
        NameFall mute = of(head + person("a", "zz", "v", 0, "") + person("b", "zz", "v", 0, "a"));
        due("kin, but not in talk", mute.tell(0, 1, 0, 0, 0), NONE);

        says("all ALIVE");
        NameFall y = of(head + person("a", "zz", "v", 0, "") + person("b", "zz", "v", 20, "") + person("c", "zz", "v", 0, "") + "talk a b;talk b c;");
        y.die(1, 40);
        int[][] years = {{19, NONE}, {20, 3}, {39, 3}, {40, NONE}};
        for (int[] year : years) {
            due("in " + year[0], y.tell(0, 2, 0, year[0], 0), year[1]);
            due("in " + year[0], y.told(0, 2, 0, year[0], 1, 0), year[1] == NONE ? NONE : 1);
        }

        says("each of whom has a WORD for the MEANING to the next which is in the ROW of the next one's PLACE");
        NameFall z = of(head + person("a", "zz", "v", 0, "") + person("b", "zz", "u", 0, "") + person("c", "zz", "v", 0, "") + "talk a b;talk b c;");
        due("m is of both", z.tell(0, 2, 0, 0, 0), 3);
        due("n is not grasped at u", z.tell(0, 2, 1, 0, 0), NONE);
        due("n is borrowed by one of u", z.tell(1, 2, 1, 0, 0), 2);

        says("the fewest; of like ones that way found first from the one who begins, by numbers");
        NameFall w = of(head + each("person ? called zz at v born 0;", 0, 7) + "talk a g;talk g f;talk a d;talk d f;talk a b;talk b c;talk c f;");
        due("the fewest", w.tell(0, 5, 0, 0, 0), 3);
        due("by the lower number", w.told(0, 5, 0, 0, 1, 0), 3);
        due("back by the lower number", w.told(5, 0, 0, 0, 1, 0), 3);
    }

    // ---- ==== 4: names, chances, wishes

    private static void namesAndWishes() {
        says("SAFE: .. APART from what each PERSON is called who is of it by more than its alike");
        String words = "meaning m;word abcdefgh means m at v;word abcdefg means m at v;word abcdef means m at v;"
            + "word abcde means m at v;word abcd means m at v;";
        for (int alike = 0; alike <= 3; alike++) {
            NameFall x = of(place("v", "kin", alike, 0, 1, "never") + place("u", "all", 3, 0, 1, "never") + words + person("p", "zzzzzzzz", "v", 0, "")
                + person("q", "abcdefgh", "v", 150, ""));
            for (int word = 0; word < 5; word++) {
                due("alike " + alike + ", word " + word, x.safe(0, word), word > alike ? 1 : 0);
                due("a place of no persons", x.safe(1, word), 1);
            }
        }
        NameFall twelve = of(place("v", "all", 0, 0, 1, "never") + words + each("person ? called z? at v born 0;", 0, 12));
        due("none of twelve", twelve.safe(0, 0), 1);
        NameFall last = of(place("v", "all", 0, 0, 1, "never") + words + each("person ? called z? at v born 0;", 0, 11) + person("l", "abcd", "v", 0, ""));
        due("the last of twelve", last.safe(0, 4), 0);
        hurtAndChild(words);
        mean();
        wish();
        says("OLD of a MEANING: the WORDS that are in its ROWS of all PLACES; FIRST of them: the least number");
        NameFall one = of(V + "meaning a;meaning b;word k means b at v;word l means a at v;word n means a at v;");
        due("one place", one.old(0, 0), 2);
        due("one place", one.old(0, 1), 1);
        due("number 0", one.old(1, 1), 0);
        String four = each(place("?", "all", 0, 0, 1, "any"), 0, 4) + "meaning m;meaning n;";
        NameFall most = of(four + each("word ? means m at a b c d;", 0, 24));
        due("all 24", most.old(0, 0), 24);
        due("all 24", most.old(0, 1), 0);
        NameFall all = of(four + each("word ? means m at a b c;", 0, 12) + each("word ? means m at b c d;", 12, 23) + "word x means m at d a b c;");
        due("the last alone", all.old(0, 0), 1);
        due("the last alone", all.old(0, 1), 23);
        String[] rows = {"b c d", "a c d", "a b d", "a b c", "a", "d"};
        for (int what = 0; what <= 1; what++) {
            due("no word", all.old(1, what), NONE);
            due("no places", of("meaning m;").old(0, what), NONE);
            for (String at : rows) {
                due("at " + at + " alone", of(four + "word w means m at " + at + ";").old(0, what), NONE);
            }
        }
    }

    private static void hurtAndChild(String words) {
        says("HURT .. how many WORDS of the PLACE's ROWS (it, too, if it is one) are APART from it by no more than alike");
        for (int alike = 0; alike <= 3; alike++) {
            NameFall x = of(place("v", "all", alike, 0, 1, "never") + place("u", "all", alike, 0, 1, "never") + words + "word abc means m at u;");
            due("alike " + alike + ", the first of a chain", x.hurt(0, 0, 0, 0), alike + 1);
            due("alike " + alike + ", not of the place", x.hurt(0, 5, 0, 0), alike);
            due("alike " + alike + ", of the place", x.hurt(1, 5, 0, 0), 1);
            due("alike " + alike + ", not of that place", x.hurt(1, 4, 0, 0), alike == 0 ? 0 : 1);
            due("alike " + alike + ", the first word is not of that place", x.hurt(1, 0, 0, 0), 0);
        }

        says("less 3 for each FALL, begun, not over and not LIFTED, of one of that PLACE called so, if its custom is any or own");
        for (String back : new String[] {"never", "any", "own"}) {
            for (String custom : new String[] {"all", "kin", "before"}) {
                NameFall x = of(place("v", custom, 0, 0, 5, back) + place("u", custom, 0, 0, 5, back) + "meaning m;word ab means m at v u;"
                    + person("p", "ab", "v", 0, "") + person("q", "ab", "v", 23, "p"));
                x.die(0, 20);
                int less = back.equals("never") ? 0 : 3;
                for (int year = 19; year <= 23; year++) {
                    boolean stands = year >= 20 && year < 23;
                    due(custom + " " + back + " in " + year, x.hurt(0, 0, year, 0), stands ? 1 - less : 1);
                    due("at the other place", x.hurt(1, 0, year, 0), 1);
                }
                x.die(1, 30);
                due(custom + " " + back + " at the last of the years", x.hurt(0, 0, 34, 0), 1 - less);
                due(custom + " " + back + " when it is over", x.hurt(0, 0, 35, 0), 1);
            }
        }
        NameFall many = of(place("v", "kin", 0, 0, 99, "any") + "meaning m;word ab means m at v;" + each("person ? called ab at v born 0;", 0, 12));
        for (int i = 0; i < 12; i++) {
            due("with " + i + " falls", many.hurt(0, 0, 50, 0), 1 - 3 * i);
            many.die(i, 50);
        }
        due("with 12 falls", many.hurt(0, 0, 50, 0), -35);
    }

    private static void child() {
        says("CHILD: of all WORDS that of least HURT among those that no FALL by a custom of all of that PLACE holds; of like ones the first");
        String text = "meaning m;word ab means m at v u;word ac means m at v;word zzzz means m at v;word yyyy means m at v;"
            + person("p", "ab", "v", 0, "") + person("q", "zzzz", "v", 0, "") + person("r", "yyyy", "v", 0, "") + person("s", "ac", "v", 0, "");
        NameFall all = of(place("v", "all", 1, 0, 99, "never") + place("u", "all", 0, 0, 99, "never") + text);
        due("of like ones the first", all.child(0, 50, 0), 2);
        due("any word of all, of a place of fewer rows", all.child(1, 50, 0), 1);
        all.die(1, 50);
        due("the held one is none", all.child(0, 50, 0), 3);
        due("held at that place alone", all.child(1, 50, 0), 1);
        all.die(2, 50);
        due("what hurts more", all.child(0, 50, 0), 0);
        all.die(0, 50);
        due("all are held", all.child(0, 50, 0), NONE);
        due("ahead of it", all.child(0, 49, 0), 2);
        for (String custom : new String[] {"kin", "before"}) {
            NameFall x = of(place("v", custom, 1, 4, 99, "any") + place("u", "all", 0, 0, 99, "never") + text);
            x.die(0, 50);
            due(custom + " holds nothing: it comes back", x.child(0, 50, 0), 0);
        }
    }

    private static void mean() {
        says("dies with odds of o tenths (0 .. 10)");
        NameFall x = of(place("v", "all", 0, 0, 1, "never") + "meaning m;word ab means m at v;" + person("p", "ab", "v", 0, ""));
        int[] upper = {1, 9, 4, 7, 3, 1, 2, 3, 1, 1, 0};
        int[] lower = {1, 10, 5, 10, 5, 2, 5, 10, 5, 10, 1};
        for (int odds = 0; odds <= 10; odds++) {
            due("upper, odds " + odds, x.mean(0, odds, 50, 0, 0), upper[odds]);
            due("lower, odds " + odds, x.mean(0, odds, 50, 1, 0), lower[odds]);
        }
    }

    private static void meanOfMany() {
        says("each by itself (10 such at most; SPENT else)");
        NameFall y = of(place("v", "all", 0, 0, 99, "never") + place("u", "all", 0, 0, 99, "never") + "meaning m;word ab means m at v;"
            + each("person ? called ab at v born 0;", 0, 9) + person("j", "ab", "v", 20, "") + person("k", "zz", "v", 30, "") + person("l", "ab", "u", 0, ""));
        due("nine", y.mean(0, 1, 19, 1, 0), 1000000000L);
        due("ten", y.mean(0, 1, 20, 0, 0), 3486784401L);
        due("ten", y.mean(0, 1, 20, 1, 0), 10000000000L);
        due("ten, all die", y.mean(0, 10, 20, 0, 0), 0);
        due("eleven", y.mean(0, 1, 30, 0, 0), -2);
        due("eleven", y.mean(0, 1, 30, 1, 0), -2);
        due("eleven, odds 0", y.mean(0, 0, 30, 0, 0), -2);
        due("one of the other place", y.mean(1, 5, 30, 0, 0), 0);
        y.die(10, 40);
        due("eleven, ahead of the death", y.mean(0, 0, 39, 0, 0), -2);
        due("ten are left", y.mean(0, 1, 40, 0, 0), 3486784401L);
        NameFall most = of(place("v", "all", 0, 0, 99, "never") + place("u", "all", 0, 0, 99, "never") + each("meaning ?;word ? means ? at v u;", 0, 8)
            + each("person ? called zz at v born 0;", 0, 10));
        for (int place = 0; place <= 1; place++) {
            due("eight of eight", most.mean(place, 3, 0, 0, 0), 8);
            due("eight of eight", most.mean(place, 3, 0, 1, 0), 1);
        }

        says("how many MEANINGS have a TODAY then, in the mean .. a fraction");
        NameFall none = of(place("v", "all", 0, 0, 1, "never") + "meaning m;meaning n;word ab means m at v;");
        due("none is alive", none.mean(0, 10, 50, 0, 0), 1);
        due("none is alive", none.mean(0, 10, 50, 1, 0), 1);
        NameFall bare = of(place("v", "all", 0, 0, 1, "never") + person("p", "ab", "v", 0, ""));
        due("no meaning", bare.mean(0, 5, 50, 0, 0), 0);
        due("no meaning", bare.mean(0, 5, 50, 1, 0), 1);
        for (String custom : new String[] {"kin", "before"}) {
            NameFall kin = of(place("v", custom, 3, 4, 99, "never") + "meaning m;word ab means m at v;" + person("p", "ab", "v", 0, ""));
            due(custom + ": all die", kin.mean(0, 10, 50, 0, 0), 1);
        }

        says("(all their deaths of that YEAR)");
        NameFall z = of(place("v", "all", 0, 0, 1, "any") + "meaning m;word ab means m at v;" + person("p", "ab", "v", 0, "") + person("q", "ab", "v", 50, ""));
        due("one born that year lifts it, its own death does not", z.mean(0, 2, 50, 0, 0), 4);
        due("one born that year lifts it, its own death does not", z.mean(0, 2, 50, 1, 0), 5);
        due("both, a year later", z.mean(0, 2, 51, 0, 0), 16);
        due("both, a year later", z.mean(0, 2, 51, 1, 0), 25);
    }

    private static void wish() {
        says("WISH: of customs of a PLACE (all, kin, before; alike 0 .. 3; all else as it is) that by which GRASP .. is most");
        // The speaker says what the hearer grasps only if the first word is barred, which but one custom does.
        String[] heard = {"abcdefgh", "abcdefg", "abcdef", "abcde"};
        for (int kind = 0; kind < 3; kind++) {
            for (int alike = 0; alike <= 3; alike++) {
                String speaker = person("s", "qq", kind == 0 ? "v" : "u", 0, kind == 1 ? "d" : "");
                String hearer = person("h", "qq", "w", 0, kind == 2 ? "d" : "");
                NameFall x = of(place("v", "before", 2, 1, 99, "never") + place("u", "all", 0, 0, 99, "never") + place("w", "all", 0, 0, 99, "never")
                    + "meaning m;word " + heard[alike] + " means m at v u;word zzzz means m at v u w;"
                    + person("d", "abcdefgh", "v", 0, "") + speaker + hearer);
                x.die(0, 50);
                due("kind " + kind + ", alike " + alike, x.wish(0, 50, 0), 10 * kind + alike);
                due("of another place", x.wish(1, 50, 0), 0);
                due("ahead of the death", x.wish(0, 49, 0), 0);
                int now = x.grasp(1, 2, 50, 0);
                due("the custom itself stays", now, kind == 2 && alike <= 2 ? 1 : 0);
            }
        }

        for (String custom : new String[] {"all", "kin", "before"}) {
            NameFall far = of(place("v", custom, 3, 4, 99, "never") + place("w", "all", 0, 0, 99, "never") + "meaning m;word abcd means m at v;word zzzz means m at v w;"
                + person("d", "abcdefgh", "v", 0, "") + person("s", "qq", "v", 0, "d") + person("h", "qq", "w", 0, "d"));
            far.die(0, 50);
            due("no custom reaches a word apart by 4", far.wish(0, 50, 0), 0);
        }
        says("GRASP of all who are ALIVE, each to each other one, together");
        for (int first = 0; first <= 1; first++) {
            String speaks = person("s", "qq", "v", 0, "");
            String hears = person("h", "qq", "w", 0, "");
            NameFall x = of(place("v", "kin", 0, 0, 99, "never") + place("w", "all", 0, 0, 99, "never") + "meaning m;word abcde means m at v;word zzzz means m at v w;"
                + (first == 0 ? speaks + hears : hears + speaks) + person("d", "abcdefgh", "v", 0, ""));
            x.die(2, 50);
            due("by the first to the second or back", x.wish(0, 50, 0), 3);
        }
    }

    private static void likeWishes() {
        says("of like ones the first (kind, then alike): 10 * kind + alike");
        NameFall none = of(place("v", "before", 3, 4, 99, "never") + "meaning m;word ab means m at v;");
        due("none is alive", none.wish(0, 50, 0), 0);
        NameFall one = of(place("v", "before", 3, 4, 99, "never") + "meaning m;word ab means m at v;" + person("p", "ab", "v", 0, ""));
        due("one alone", one.wish(0, 50, 0), 0);
        String pair = person("p", "ab", "v", 0, "") + person("q", "zz", "v", 0, "");
        NameFall alone = of(place("v", "before", 3, 4, 99, "never") + "meaning m;word ab means m at v;" + pair);
        alone.die(0, 50);
        due("one alone, not to itself", alone.wish(0, 50, 0), 0);
        NameFall unborn = of(place("v", "before", 3, 4, 99, "never") + "meaning m;word ab means m at v;" + pair + person("r", "zz", "v", 51, ""));
        unborn.die(0, 50);
        due("nor with one unborn", unborn.wish(0, 50, 0), 0);
        due("but with one born", unborn.wish(0, 51, 0), 10);
        unborn.die(2, 60);
        due("until that one dies", unborn.wish(0, 59, 0), 10);
        due("from then on alone", unborn.wish(0, 60, 0), 0);
        NameFall two = of(place("v", "all", 0, 0, 99, "never") + "meaning m;word ab means m at v;" + person("p", "ab", "v", 0, "")
            + person("q", "zz", "v", 0, "") + person("r", "zz", "v", 0, ""));
        two.die(0, 50);
        due("kin and before alike, by any alike", two.wish(0, 50, 0), 10);
    }

    // ---- calls that are refused

    private static void tapeCalls() {
        says("how many there are; NONE, and nothing comes, if there would be more than 1,600");
        NameFall x = new NameFall();
        for (int i = 1; i <= 80; i++) {
            due("feed", x.feed(0x20202020, 0x20202020, 0x20202020, 0x20202020, 0x20202020), 20 * i);
        }
        due("feed when full", x.feed(0, 0, 0, 0, 0), NONE);
        due("about(8)", x.about(8), 1600);
        due("nothing came", x.land(), 0);
        for (int i = 1; i < 80; i++) {
            x.feed(0x20202020, 0x20202020, 0x20202020, 0x20202020, 0x20202020);
        }
        put(x, "meaning a;");
        for (int room = 10; room < 20; room++) {
            due("feed with less than twenty left", x.feed(0, 0, 0, 0, 0), NONE);
            due("about(8)", x.about(8), 1590);
        }
        due("nothing came", x.land(), 1);
        for (int length = 1581; length < 1600; length++) {
            NameFall y = new NameFall();
            put(y, blanks(length - 10) + "meaning a;");
            due("feed at " + length, y.feed(0, 0, 0, 0, 0), NONE);
            due("about(8)", y.about(8), length);
            due("land at " + length, y.land(), 1);
        }
        NameFall z = new NameFall();
        put(z, blanks(1580));
        due("feed at 1580", z.feed(LOW, HIGH, -1, 0, 1), 1600);
    }

    private static void tapeBytes() {
        says("Twenty bytes come behind those on the TAPE, of each number the highest first");
        NameFall bytes = new NameFall();
        due("feed", bytes.feed(0x6d65616e, 0x696e6720, 0x613b6d65, 0x616e696e, 0x6720623b), 20);
        due("feed behind", bytes.feed(0x6d65616e, 0x696e6720, 0x633b2020, 0x20202020, 0x20202020), 40);
        due("land", bytes.land(), 3);
        int[] shifts = {24, 16, 8, 0};
        for (int i = 0; i < 20; i++) {
            int[] n = {0x20202020, 0x20202020, 0x20202020, 0x20202020, 0x20202020};
            n[i / 4] ^= (0x20 ^ 0xff) << shifts[i % 4];
            NameFall y = new NameFall();
            y.feed(n[0], n[1], n[2], n[3], n[4]);
            due("land with byte " + i + " wrong", y.land(), NONE);
            due("its fault", y.fault(0), 1);
            due("its place", y.fault(1), i);
        }

        says("The TAPE has its first n bytes: n; NONE, doing nothing, if it has not so many, or n is below 0");
        NameFall e = new NameFall();
        due("end(0) of none", e.end(0), 0);
        due("end(1) of none", e.end(1), NONE);
        put(e, "meaning a;meaning b;");
        for (int n : new int[] {-1, 21, 1600, 1601, LOW, HIGH}) {
            due("end(" + n + ")", e.end(n), NONE);
            due("about(8)", e.about(8), 20);
        }
        due("end(20)", e.end(20), 20);
        due("end(10)", e.end(10), 10);
        due("end(11)", e.end(11), NONE);
        due("about(8)", e.about(8), 10);
        due("land", e.land(), 1);
        due("end(1) of an empty tape", e.end(1), NONE);
    }

    private static void landCalls() {
        says("The TAPE (empty then) is the LAND (DEATHS are none then): how many lines");
        NameFall x = of(P);
        due("about(8)", x.about(8), 0);
        x.die(0, 50);
        x.die(1, 50);
        x.later(3);
        lands(x, P, 7);
        due("about(6)", x.about(6), 0);
        due("alive", x.alive(0, 50, 3), 1);
        due("untell(0)", x.untell(0), false);
        due("die", x.die(2, 60), 0);
        due("the time goes on", x.about(7), 3);
        due("told at that time", x.alive(2, 60, 2), 1);
        due("land of an empty tape", x.land(), 0);
        due("about(6)", x.about(6), 0);
        due("about(4)", x.about(4), 0);
        due("about(7)", x.about(7), 3);
        smallerLand();
    }

    private static void landRefused() {
        says("NONE: a FAULT (all stays)");
        String[] broken = {"place v custom all alike 0 near 0 years 1 back any;meaning b;word w means b at v;person z called ab at v born 9;talk z z;",
            "$", "meaning a;meaning a;", "place a custom kin alike 9", "turn a a a;"};
        for (String text : broken) {
            NameFall y = of(place("v", "all", 1, 1, 10, "own") + "meaning a;meaning b;word ab means a at v;word cd means a at v;turn b a a;"
                + person("p", "ab", "v", 0, "") + person("q", "zz", "v", 0, "p") + person("r", "zz", "v", 0, "p") + "talk q r;");
            y.later(7);
            y.die(0, 50);
            put(y, text);
            int[] about = {1, 2, 2, 1, 3, 1, 1, 7, text.length()};
            due("land of " + text, y.land(), NONE);
            for (int what = 0; what < about.length; what++) {
                due("about(" + what + ") behind " + text, y.about(what), about[what]);
            }
            due("alive", y.alive(0, 50, 7), 0);
            due("may", y.may(1, 2, 0, 50, 7), 0);
            due("may, over", y.may(1, 2, 0, 60, 7), 1);
            due("today", y.today(0, 0, 50, 7), 1);
            due("cost", y.cost(1, 2, 1, 50, 7), 2);
            due("near", y.near(1, 2), 2);
            due("tell", y.tell(1, 2, 0, 50, 7), 2);
            due("apart", y.apart(0, 0), 0);
            due("old", y.old(0, 0), 2);
            due("land again", y.land(), NONE);
            due("untell", y.untell(0), true);
            due("end", y.end(0), 0);
            lands(y, "meaning a;", 1);
        }
    }

    private static void faultOfTheLatest() {
        says("Of the latest land() what 0: its FAULT (0), 1: its place (NONE). NONE for another what");
        NameFall z = new NameFall();
        due("fault(0) ahead of any", z.fault(0), 0);
        due("fault(1) ahead of any", z.fault(1), NONE);
        put(z, "meaning A");
        due("land", z.land(), NONE);
        due("fault(0)", z.fault(0), 1);
        due("fault(1)", z.fault(1), 8);
        for (int what : new int[] {-1, 2, 3, 32, LOW, HIGH}) {
            due("fault(" + what + ")", z.fault(what), NONE);
        }
        z.end(8);
        due("land", z.land(), NONE);
        due("fault(0) of the latest", z.fault(0), 2);
        due("fault(1) of the latest", z.fault(1), 8);
        z.end(0);
        due("land", z.land(), 0);
        due("fault(0) of the latest", z.fault(0), 0);
        due("fault(1) of the latest", z.fault(1), NONE);
    }

    /** What a larger LAND had is gone with it. */
    private static void smallerLand() {
        NameFall x = full();
        lands(x, place("v", "all", 1, 1, 1, "any") + "meaning m;meaning n;word w means m at v;" + person("p", "x", "v", 0, "") + person("q", "x", "v", 0, ""), 6);
        int[] about = {1, 2, 1, 0, 2, 0, 0};
        for (int what = 0; what < about.length; what++) {
            due("about(" + what + ")", x.about(what), about[what]);
        }
        due("today", x.today(1, 0, 0, 0), NONE);
        due("today of another meaning", x.today(0, 1, 0, 0), NONE);
        due("cost by no turn", x.cost(0, 1, 1, 0, 0), NONE);
        due("alive", x.alive(2, 0, 0), NONE);
        due("near", x.near(0, 1), 99);
        due("no talk", x.tell(0, 1, 0, 0, 0), NONE);
        due("hurt", x.hurt(0, 0, 0, 0), 1);
        due("hurt", x.hurt(0, 1, 0, 0), -1000);
        due("old", x.old(0, 0), 1);
        due("old", x.old(2, 0), NONE);
        threeLands();
    }

    /** Nor is a word, a row, a name or a talk left of the one ahead of the last, or of a faulty text. */
    private static void threeLands() {
        String small = place("v", "all", 0, 4, 9, "any") + place("u", "all", 3, 4, 9, "any") + "meaning m;meaning n;word wwwwwwww means n at v;"
            + person("p", "kk", "v", 0, "") + person("q", "kk", "u", 0, "");
        NameFall x = of(place("v", "kin", 3, 4, 9, "any") + place("u", "kin", 3, 4, 9, "any") + "meaning m;meaning n;word kk means m at v u;word kl means n at v u;turn n m m;"
            + person("p", "kk", "v", 0, "") + person("q", "kk", "v", 0, "p") + "talk p q;");
        lands(x, "meaning z;", 1);
        NameFall y = new NameFall();
        put(y, place("v", "kin", 3, 4, 9, "any") + place("u", "kin", 3, 4, 9, "any") + "meaning m;meaning n;word kk means m at v u;word kl means n at v u;turn n m m;"
            + person("p", "kk", "v", 0, "") + person("q", "kk", "v", 0, "p") + "talk p q;talk p q;");
        due("land with a fault", y.land(), NONE);
        due("end", y.end(0), 0);
        for (NameFall one : new NameFall[] {x, y}) {
            lands(one, small, 7);
            int[] about = {2, 2, 1, 0, 2, 0};
            for (int what = 0; what < about.length; what++) {
                due("about(" + what + ")", one.about(what), about[what]);
            }
            due("no row", one.today(0, 0, 0, 0), NONE);
            due("no row", one.today(1, 1, 0, 0), NONE);
            due("one row", one.today(0, 1, 0, 0), 0);
            due("no turn", one.cost(0, 1, 0, 0, 0), NONE);
            due("no kin", one.near(0, 1), 99);
            due("no talk", one.tell(0, 1, 1, 0, 0), NONE);
            due("no sound of an earlier word", one.safe(0, 0), 1);
            due("no sound of an earlier word", one.safe(1, 0), 1);
            due("one word", one.hurt(0, 0, 0, 0), 1);
            due("one word", one.hurt(1, 0, 0, 0), 0);
            due("die", one.die(0, 5), 0);
            due("w is not like kk", one.may(1, 0, 0, 4, 0), 1);
            due("w is not held", one.today(0, 1, 5, 0), 0);
        }
        String twelve = V + "meaning m;word w means m at v;" + each("person ? called x at v born 0;", 0, 12);
        NameFall z = of(twelve + "talk a l;talk k l;");
        lands(z, "meaning z;", 1);
        lands(z, twelve, 15);
        due("no talk", z.tell(0, 11, 0, 0, 0), NONE);
        due("no talk back", z.tell(11, 0, 0, 0, 0), NONE);
    }

    private static void deathCalls() {
        says("A DEATH: its number; NONE, doing nothing, if it can't be, or there are 60");
        NameFall x = of(P);
        int[][] cannot = {{-1, 50}, {3, 50}, {12, 50}, {32, 50}, {LOW, 50}, {HIGH, 50}, {0, -1}, {0, 200}, {0, LOW}, {0, HIGH}, {1, 0}, {2, 1}};
        for (int[] death : cannot) {
            due("die(" + death[0] + ", " + death[1] + ")", x.die(death[0], death[1]), NONE);
            due("about(6)", x.about(6), 0);
        }
        due("die", x.die(0, 0), 0);
        due("die of an empty land", new NameFall().die(0, 0), NONE);
        for (int i = 1; i < 60; i++) {
            due("die", x.die(0, 100), i);
        }
        due("die, when there are 60", x.die(1, 70), NONE);
        due("doing nothing", x.alive(1, 70, 0), 1);
        due("untell", x.untell(3), true);
        due("one untold is still there", x.die(1, 70), NONE);
        due("about(6)", x.about(6), 60);

        says("It is UNTOLD: true; false if it is so already, or there is none such");
        NameFall y = of(P);
        due("untell of none", y.untell(0), false);
        y.die(0, 50);
        for (int death : new int[] {-1, 1, 59, 60, LOW, HIGH}) {
            due("untell(" + death + ")", y.untell(death), false);
        }
        due("still dead", y.alive(0, 50, 0), 0);
        y.later(2);
        due("untell(0)", y.untell(0), true);
        y.later(2);
        due("untell(0) again", y.untell(0), false);
        due("untold at 2 as ever", y.alive(0, 50, 2), 1);
        due("not at 1", y.alive(0, 50, 1), 0);
        due("the last of all", x.untell(59), true);
        due("the last of all again", x.untell(59), false);
    }

    private static void laterCalls() {
        says("So much later (0 .. 1000): the TIME; NONE, doing nothing, for another number, or if it would be above 100,000");
        NameFall z = new NameFall();
        for (int by : new int[] {-1, 1001, 100000, LOW, HIGH}) {
            due("later(" + by + ")", z.later(by), NONE);
            due("about(7)", z.about(7), 0);
        }
        due("later(0)", z.later(0), 0);
        for (int i = 1; i < 100; i++) {
            due("later(1000)", z.later(1000), 1000 * i);
        }
        due("later(999)", z.later(999), 99999);
        due("later(2)", z.later(2), NONE);
        due("later(1000)", z.later(1000), NONE);
        due("about(7)", z.about(7), 99999);
        due("later(HIGH)", z.later(HIGH), NONE);
        due("later(1)", z.later(1), 100000);
        due("later(1)", z.later(1), NONE);
        due("later(0)", z.later(0), 100000);
        lands(z, P, 7);
        due("die", z.die(0, 50), 0);
        due("told at 100000", z.alive(0, 50, 99999), 1);
        due("told at 100000", z.alive(0, 50, 100000), 0);
    }

    /** A LAND with as many of each kind as there may be; all of it that can be is of use. */
    private static String fullText() {
        return each("place ? custom all alike3 near4 years9 back any;", 0, 4) + each("meaning ?;", 0, 8)
            + each("word ? means h at a b c d;", 0, 23) + "word x means a at d;"
            + each("turn g h a;", 0, 10) + each("person ? called x at d born 0;", 0, 9) + each("person ? called x at d born 0 of a;", 9, 12)
            + each("talk l ?;", 0, 11) + each("talk k ?;", 0, 9);
    }

    private static NameFall full() {
        NameFall x = of(fullText());
        int[] about = {4, 8, 24, 10, 12, 20};
        for (int what = 0; what < about.length; what++) {
            due("about(" + what + ") of a full land", x.about(what), about[what]);
        }
        return x;
    }

    private interface Call {
        long ask(NameFall x, int[] a);
    }

    private static final char PLACE = 'p';
    private static final char MEANING = 'm';
    private static final char WORD = 'w';
    private static final char PERSON = 'o';
    private static final char YEAR = 'y';

    /** Numbers that one of the kind can't be, in a LAND that has so many. */
    private static int[] beyond(char kind, NameFall x) {
        if (kind == YEAR) {
            return new int[] {-1, 200, 256, 1000, LOW, HIGH};
        }
        int what = kind == PLACE ? 0 : kind == MEANING ? 1 : kind == WORD ? 2 : 4;
        int count = x.about(what);
        return new int[] {-1, -2, count, count + 1, 32, 33, 64, 256, LOW, LOW + 1, HIGH};
    }

    /** With what is good it answers what is due; with each argument that can't be, in turn, none. */
    private static void refuses(String name, String text, Call call, String kinds, int[] good, long answer, long none) {
        NameFall x = of(text);
        due(name + Arrays.toString(good), call.ask(x, good), answer);
        for (int i = 0; i < kinds.length(); i++) {
            if (kinds.charAt(i) == '-') {
                continue;
            }
            for (int value : beyond(kinds.charAt(i), x)) {
                int[] bad = good.clone();
                bad[i] = value;
                due(name + Arrays.toString(bad), call.ask(x, bad), none);
            }
        }
    }

    private static void questionsRefused() {
        says("NONE if one can't be");
        String[] both = {
            fullText(),
            place("a", "all", 3, 4, 9, "any") + "meaning h;meaning a;meaning g;word w means h at a;word u means a at a;word x means a at a;"
                + "turn g h a;" + person("p", "zzzzzzzz", "a", 0, "") + person("q", "zzzzzzzz", "a", 0, "") + person("r", "zzzzzzzz", "a", 0, "") + "talk p q;talk q r;"};
        for (int i = 0; i < 2; i++) {
            String x = both[i];
            boolean full = i == 0;
            int p = full ? 3 : 0;
            int w = full ? 23 : 2;
            int o = full ? 11 : 2;
            int before = full ? 10 : 1;
            int m = full ? 7 : 0;
            int first = 0;
            for (int year : new int[] {0, 199}) {
                refuses("alive", x, (y, a) -> y.alive(a[0], a[1], 0), "oy", new int[] {o, year}, 1, NONE);
                refuses("may", x, (y, a) -> y.may(a[0], a[1], a[2], a[3], 0), "oowy", new int[] {o, before, w, year}, 1, NONE);
                refuses("judge", x, (y, a) -> y.judge(a[0], a[1], 1, a[2], 0), "ooy", new int[] {o, before, year}, -2, NONE);
                refuses("instead", x, (y, a) -> y.instead(a[0], a[1], a[2], a[3], 0), "oomy", new int[] {o, before, m, year}, first, NONE);
                refuses("cost", x, (y, a) -> y.cost(a[0], a[1], a[2], a[3], 0), "oomy", new int[] {o, before, full ? 6 : 2, year}, 2, NONE);
                refuses("grasp", x, (y, a) -> y.grasp(a[0], a[1], a[2], 0), "ooy", new int[] {o, before, year}, 2, NONE);
                refuses("today", x, (y, a) -> y.today(a[0], a[1], a[2], 0), "pmy", new int[] {p, m, year}, first, NONE);
                refuses("parted", x, (y, a) -> y.parted(a[0], a[1], a[2], 0), "ppy", new int[] {p, 0, year}, full ? 1 : 0, NONE);
                refuses("tell", x, (y, a) -> y.tell(a[0], a[1], a[2], a[3], 0), "oomy", new int[] {o, before, m, year}, 2, NONE);
                refuses("told", x, (y, a) -> y.told(a[0], a[1], a[2], a[3], 1, 0), "oomy", new int[] {o, before, m, year}, before, NONE);
                refuses("child", x, (y, a) -> y.child(a[0], a[1], 0), "py", new int[] {p, year}, 0, NONE);
                refuses("wish", x, (y, a) -> y.wish(a[0], a[1], 0), "py", new int[] {p, year}, 0, NONE);
            }
            refuses("changes", x, (y, a) -> y.changes(a[0], a[1], a[2], a[3], 0), "pmyy", new int[] {p, m, 0, 199}, 0, NONE);
            chancesRefused(full ? place("v", "all", 3, 4, 9, "any") + "meaning m;word w means m at v;" : x, full ? 1 : 2);
            says("NONE if one is none");
            refuses("apart", x, (y, a) -> y.apart(a[0], a[1]), "wo", new int[] {w, o}, full ? 0 : 8, NONE);
            refuses("near", x, (y, a) -> y.near(a[0], a[1]), "oo", new int[] {o, 0}, full ? 1 : 99, NONE);
            refuses("safe", x, (y, a) -> y.safe(a[0], a[1]), "pw", new int[] {p, w}, full ? 0 : 1, NONE);
            says("HURT; -1000 if one can't be");
            for (int year : new int[] {0, 199}) {
                refuses("hurt", x, (y, a) -> y.hurt(a[0], a[1], a[2], 0), "pwy", new int[] {p, w, year}, full ? 24 : 3, -1000);
            }
            says("OLD what 0: how many, 1: FIRST; NONE if there is none, no such MEANING, or for another what");
            refuses("old", x, (y, a) -> y.old(a[0], a[1]), "m-", new int[] {m, 0}, full ? 23 : 1, NONE);
            refuses("old", x, (y, a) -> y.old(a[0], a[1]), "m-", new int[] {m, 1}, 0, NONE);
            for (int what : new int[] {-1, 2, 32, LOW, HIGH}) {
                due("old(" + m + ", " + what + ")", of(x).old(m, what), NONE);
            }
        }
        spansRefused();
        sayingsRefused();
        emptyLand();
        counted();
    }

    private static void chancesRefused(String text, int upper) {
        says("MEAN: upper part (0), lower part (1); NONE if one can't be; -2 if SPENT");
        refuses("mean", text, (y, a) -> y.mean(a[0], 0, a[1], 0, 0), "py", new int[] {0, 0}, upper, NONE);
        refuses("mean", text, (y, a) -> y.mean(a[0], 0, a[1], 1, 0), "py", new int[] {0, 199}, 1, NONE);
        NameFall x = of(text);
        for (int odds : new int[] {-1, 11, LOW, HIGH}) {
            due("odds " + odds, x.mean(0, odds, 0, 0, 0), NONE);
        }
        for (int part : new int[] {-1, 2, 32, LOW, HIGH}) {
            due("part " + part, x.mean(0, 0, 0, part, 0), NONE);
        }
    }

    private static void spansRefused() {
        says("CHANGES (from is below to); NONE if one can't be");
        NameFall x = of(place("v", "all", 0, 0, 10, "never") + "meaning m;word ab means m at v;" + person("p", "ab", "v", 0, ""));
        x.die(0, 50);
        int[][] spans = {{50, 50}, {60, 49}, {199, 199}, {0, 0}, {199, 0}, {-1, 60}, {-1, -1}, {49, 200}, {200, 201}, {LOW, HIGH}, {HIGH, LOW}, {0, HIGH}, {LOW, 199}};
        for (int[] span : spans) {
            due("changes from " + span[0] + " to " + span[1], x.changes(0, 0, span[0], span[1], 0), NONE);
        }
        due("the longest", x.changes(0, 0, 0, 199, 0), 2);

        says("RENEWED; NONE if no TODAY changes, or one can't be");
        for (int[] span : spans) {
            due("renewed from " + span[0] + " to " + span[1], x.renewed(0, span[0], span[1], 0), NONE);
        }
        for (int place : beyond(PLACE, x)) {
            due("renewed at " + place, x.renewed(place, 0, 199, 0), NONE);
        }
        due("none changes", x.renewed(0, 50, 59, 0), NONE);
        due("one changes", x.renewed(0, 50, 60, 0), 0);
    }

    private static void sayingsRefused() {
        says("saying is 1 and more WORDS, 5 at most, each its number and 1, times 1, 32, 32 * 32, .. from the first on");
        int five = 1 + 32 + 32 * 32 + 32 * 32 * 32 + 32 * 32 * 32 * 32;
        NameFall x = full();
        due("the last word, five times", x.judge(11, 10, 24 * five, 0, 0), -2);
        due("the first word, five times", x.judge(11, 10, five, 0, 0), -2);
        due("one word", x.judge(11, 10, 24, 0, 0), -2);

        says("NONE likewise, or if a WORD is none");
        for (int at = 0, times = 1; at < 5; at++, times *= 32) {
            due("word 24 at " + at, x.judge(11, 10, 24 * five + times, 0, 0), NONE);
            due("word 30 at " + at, x.judge(11, 10, 24 * five + 7 * times, 0, 0), NONE);
        }
        says("(0 ends it, whatever is behind)");
        for (int at = 1, times = 32; at < 5; at++, times *= 32) {
            int behind = 31 * five / times / 32 * times * 32;
            due("0 at " + at, x.judge(11, 10, 24 * five % times + behind, 0, 0), -2);
        }
        says("-2 if none is; .. or the first is 0, or saying is not from 1 to 33554431");
        NameFall y = of(place("v", "all", 0, 0, 99, "never") + "meaning m;word ab means m at v;" + person("p", "ab", "v", 0, "") + person("q", "zz", "v", 0, "")
            + person("r", "zz", "v", 0, ""));
        due("1", y.judge(1, 2, 1, 50, 0), -2);
        y.die(0, 50);
        due("1", y.judge(1, 2, 1, 50, 0), 0);
        due("behind a 0", y.judge(1, 2, 1 + 32 * 32, 50, 0), 0);
        for (int saying : new int[] {0, -1, -31, LOW, LOW + 1, 32, 32 * 32, 33554400, 33554431, 33554432, 33554433, 33554432 + five, HIGH, 2 * 33554432 + 1}) {
            due("saying " + saying, y.judge(1, 2, saying, 50, 0), NONE);
        }
    }

    private static void emptyLand() {
        says("An empty LAND.");
        NameFall x = new NameFall();
        due("alive", x.alive(0, 0, 0), NONE);
        due("apart", x.apart(0, 0), NONE);
        due("near", x.near(0, 0), NONE);
        due("may", x.may(0, 1, 0, 0, 0), NONE);
        due("judge", x.judge(0, 1, 1, 0, 0), NONE);
        due("instead", x.instead(0, 1, 0, 0, 0), NONE);
        due("cost", x.cost(0, 1, 0, 0, 0), NONE);
        due("grasp", x.grasp(0, 1, 0, 0), NONE);
        due("today", x.today(0, 0, 0, 0), NONE);
        due("parted", x.parted(0, 0, 0, 0), NONE);
        due("changes", x.changes(0, 0, 0, 1, 0), NONE);
        due("renewed", x.renewed(0, 0, 1, 0), NONE);
        due("tell", x.tell(0, 1, 0, 0, 0), NONE);
        due("told", x.told(0, 1, 0, 0, 0, 0), NONE);
        due("safe", x.safe(0, 0), NONE);
        due("hurt", x.hurt(0, 0, 0, 0), -1000);
        due("child", x.child(0, 0, 0), NONE);
        due("mean", x.mean(0, 0, 0, 0, 0), NONE);
        due("wish", x.wish(0, 0, 0), NONE);
        due("old", x.old(0, 0), NONE);
        due("die", x.die(0, 0), NONE);
        due("untell", x.untell(0), false);
        for (int what = 0; what <= 8; what++) {
            due("about(" + what + ")", x.about(what), 0);
        }
    }

    private static void counted() {
        says("What 0: PLACES, .. 8: bytes on the TAPE. NONE for another what");
        NameFall x = full();
        for (int i = 0; i < 60; i++) {
            x.die(0, 50);
        }
        for (int i = 0; i < 100; i++) {
            x.later(1000);
        }
        put(x, blanks(1600));
        int[] most = {4, 8, 24, 10, 12, 20, 60, 100000, 1600};
        for (int what = 0; what < most.length; what++) {
            due("about(" + what + ")", x.about(what), most[what]);
        }
        for (int what : new int[] {-1, 9, 10, 32, LOW, HIGH}) {
            due("about(" + what + ")", x.about(what), NONE);
        }
    }

    private static void speakersRefused() {
        says("NONE if one of both is not ALIVE, both are one, or one can't be");
        String text = place("v", "all", 0, 4, 99, "never") + "meaning a;meaning b;word w means a at v;turn b a a;"
            + person("p", "zz", "v", 20, "") + person("q", "zz", "v", 20, "") + person("r", "zz", "v", 0, "") + "talk p r;talk q r;talk p q;";
        NameFall x = of(text);
        x.die(0, 40);
        x.die(1, 40);
        // of each: who speaks, who hears; both 0 and 1 live from 20 to 39
        int[][] pairs = {{0, 2}, {2, 0}, {1, 2}, {2, 1}};
        for (int[] pair : pairs) {
            for (int year : new int[] {0, 19, 20, 39, 40, 199}) {
                boolean live = year >= 20 && year < 40;
                speak(x, pair[0], pair[1], year, live);
            }
        }
        for (int one = 0; one < 3; one++) {
            speak(x, one, one, 30, false);
            speak(x, one, one, 2, false);
        }
        speak(x, 0, 1, 19, false);
        speak(x, 0, 1, 20, true);
    }

    private static void speak(NameFall x, int speaks, int hears, int year, boolean can) {
        String who = "(" + speaks + ", " + hears + ") in " + year;
        due("may" + who, x.may(speaks, hears, 0, year, 0), can ? 1 : NONE);
        due("judge" + who, x.judge(speaks, hears, 1, year, 0), can ? -2 : NONE);
        due("instead" + who, x.instead(speaks, hears, 0, year, 0), can ? 0 : NONE);
        due("cost" + who, x.cost(speaks, hears, 1, year, 0), can ? 2 : NONE);
        due("grasp" + who, x.grasp(speaks, hears, year, 0), can ? 1 : NONE);
        due("tell" + who, x.tell(speaks, hears, 0, year, 0), can ? 2 : NONE);
        due("told" + who, x.told(speaks, hears, 0, year, 0, 0), can ? speaks : NONE);
    }

    private static void answersOfNone() {
        NameFall x = of(place("v", "all", 0, 0, 99, "never") + place("u", "all", 0, 0, 99, "never") + "meaning a;meaning b;meaning c;word ab means a at v;turn c a b;"
            + person("p", "ab", "v", 0, "") + person("q", "zz", "v", 0, "") + person("r", "zz", "v", 0, "") + person("s", "zz", "u", 0, "") + "talk q r;");
        says("INSTEAD; NONE likewise, or if there is none");
        due("a meaning of no word", x.instead(0, 1, 1, 50, 0), NONE);
        due("by turns alone", x.instead(0, 1, 2, 50, 0), NONE);
        says("COST; likewise");
        due("a meaning of no word and no turn", x.cost(0, 1, 1, 50, 0), NONE);
        due("by a turn of which one has none", x.cost(0, 1, 2, 50, 0), NONE);
        says("TODAY; NONE if there is none, or one can't be");
        due("an empty row", x.today(1, 0, 50, 0), NONE);
        due("a meaning of no word", x.today(0, 1, 50, 0), NONE);
        says("TELL: how many PERSONS, both ends, too; NONE if there is no such way, or as for may()");
        due("both ends", x.tell(1, 2, 0, 50, 0), 2);
        due("no talk", x.tell(0, 1, 0, 50, 0), NONE);
        due("no word", x.tell(1, 2, 1, 50, 0), NONE);
        says("The i-th of them (from 0 on); NONE if there is none such");
        int[][] told = {{0, 1}, {1, 2}, {2, NONE}, {-1, NONE}, {11, NONE}, {12, NONE}, {32, NONE}, {LOW, NONE}, {HIGH, NONE}};
        for (int[] i : told) {
            due("told " + i[0], x.told(1, 2, 0, 50, i[0], 0), i[1]);
            due("no way, told " + i[0], x.told(0, 1, 0, 50, i[0], 0), NONE);
            due("one way alone, told " + i[0], x.told(1, 1, 0, 50, i[0], 0), NONE);
        }
        says("CHILD; NONE if there is none, or one can't be");
        due("one word", x.child(0, 49, 0), 0);
        x.die(0, 50);
        due("all words are held", x.child(0, 50, 0), NONE);
        due("not at the other place", x.child(1, 50, 0), 0);
        due("no words", of(V).child(0, 50, 0), NONE);
        says("none else");
        due("instead", x.instead(1, 2, 0, 50, 0), NONE);
        due("instead of another place", x.instead(3, 1, 0, 50, 0), 0);
        due("cost", x.cost(1, 2, 0, 50, 0), NONE);
        due("grasp", x.grasp(1, 2, 50, 0), 0);
        due("tell", x.tell(1, 2, 0, 50, 0), NONE);
        due("judge", x.judge(1, 2, 1, 50, 0), 0);
        says("1 if a WORD is SAFE at a PLACE, else 0");
        due("as one is called", x.safe(0, 0), 0);
        due("of another place", x.safe(1, 0), 1);
    }

    private interface Asked {
        long at(NameFall x, int k);
    }

    /** Told at 5, untold at 9: each question's answer as known ahead of it, then, and behind it. */
    private static void known(String name, NameFall x, Asked asked, long without, long with) {
        for (int k : new int[] {LOW, -1, 0, 4, 5, 8, 9, 100000, HIGH}) {
            due(name + " as known at " + k, asked.at(x, k), k >= 5 && k < 9 ? with : without);
        }
    }

    private static void knownAtTimes() {
        says("All questions: as known at k");
        NameFall x = of(place("v", "all", 0, 4, 10, "any") + place("u", "all", 0, 4, 10, "any") + "meaning a;meaning b;word ab means a at v u;word cd means a at v;"
            + "turn b a a;" + person("p", "ab", "v", 0, "") + person("q", "zz", "v", 0, "") + person("r", "zz", "u", 0, "") + "talk q r;");
        x.later(5);
        x.die(0, 50);
        x.later(4);
        x.untell(0);
        known("alive", x, (y, k) -> y.alive(0, 50, k), 1, 0);
        known("may", x, (y, k) -> y.may(1, 2, 0, 50, k), 1, 0);
        known("may of who died", x, (y, k) -> y.may(0, 2, 0, 50, k), 1, NONE);
        known("judge", x, (y, k) -> y.judge(1, 2, 1, 50, k), -2, 0);
        known("instead", x, (y, k) -> y.instead(1, 2, 0, 50, k), 0, 1);
        known("grasp", x, (y, k) -> y.grasp(1, 2, 50, k), 1, 0);
        known("today", x, (y, k) -> y.today(0, 0, 50, k), 0, 1);
        known("parted", x, (y, k) -> y.parted(0, 1, 50, k), 0, 1);
        known("changes", x, (y, k) -> y.changes(0, 0, 0, 199, k), 0, 2);
        known("renewed", x, (y, k) -> y.renewed(0, 0, 199, k), NONE, 0);
        known("tell", x, (y, k) -> y.tell(1, 2, 0, 50, k), 2, NONE);
        known("told", x, (y, k) -> y.told(1, 2, 0, 50, 1, k), 2, NONE);
        known("hurt", x, (y, k) -> y.hurt(0, 0, 50, k), 1, -2);
        known("child", x, (y, k) -> y.child(0, 50, k), 0, 1);
        known("wish", x, (y, k) -> y.wish(0, 50, k), 0, 10);
        NameFall one = of(place("v", "all", 0, 4, 10, "any") + "meaning a;meaning b;word ab means a at v;turn b a a;"
            + person("p", "ab", "v", 0, "") + person("q", "zz", "v", 0, "") + person("r", "zz", "v", 0, ""));
        one.later(5);
        one.die(0, 50);
        one.later(4);
        one.untell(0);
        known("cost", one, (y, k) -> y.cost(1, 2, 1, 50, k), 2, NONE);
        known("mean", one, (y, k) -> y.mean(0, 0, 50, 0, k), 1, 0);
    }

    private static void lastCalls() {
        says("An object is used for at most 512 calls after it has been made");
        NameFall x = new NameFall();
        put(x, P);
        // about(8), the feeds and end of put, and land
        int calls = 1 + (P.length() + 19) / 20 + 1 + 1;
        due("land", x.land(), 7);
        for (int time = 1; calls < 510; calls++, time++) {
            due("later", x.later(1), time);
        }
        due("the 511th call", x.die(1, 60), 0);
        due("the 512th call", x.alive(1, 60, HIGH), 0);
    }
}
