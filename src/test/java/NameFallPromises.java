import java.nio.charset.StandardCharsets;
import java.util.Arrays;

/** For each promise: ordinary inputs, the edges that the document names, and wrong inputs. */
public final class NameFallPromises {
    private static final int LOW = Integer.MIN_VALUE;
    private static final int HIGH = Integer.MAX_VALUE;

    private static final String VALLEYS =
        "place v custom all alike 1 near 1 years 10 back own;"
        + "place u custom kin alike 0 near 1 years 99 back never;"
        + "place s custom before alike 2 near 2 years 3 back any;"
        + "meaning fire; meaning rain; meaning stone; meaning ash;"
        + "word pira means fire at v u;"      // 0
        + "word tolo means fire at v;"        // 1
        + "word miki means rain at u v;"      // 2
        + "word kani means rain at s v;"      // 3
        + "word pirak means stone at v u s;"  // 4
        + "word lu means stone at s v u;"     // 5
        + "turn ash fire stone; turn ash fire fire; turn fire ash rain;"
        + "person a called pira at v born 0;"            // 0
        + "person b called lena at v born 20 of a;"      // 1
        + "person c called pira at v born 58 of b;"      // 2
        + "person d called miki at u born 10;"           // 3
        + "person e called suna at u born 30 of d a;"    // 4
        + "person f called kanu at s born 5;"            // 5
        + "person g called sol at s born 25 of f;"       // 6
        + "person h called pira at s born 40;"           // 7
        + "talk b e; talk g e; talk b g; talk h g; talk d h; talk d e;";

    private static int wrong = 0;
    private static String promise = "";

    private static void due(String call, long got, long want) {
        if (got != want) {
            wrong++;
            System.out.println(promise + ": " + call + " answered " + got + ", due is " + want);
        }
    }

    private static void due(String call, boolean got, boolean want) {
        due(call, got ? 1 : 0, want ? 1 : 0);
    }

    private static void feed(NameFall x, String text) {
        byte[] bytes = text.getBytes(StandardCharsets.ISO_8859_1);
        int begin = x.about(8);
        byte[] padded = Arrays.copyOf(bytes, (bytes.length + 19) / 20 * 20);
        for (int i = 0; i < padded.length; i += 20) {
            int[] n = new int[5];
            for (int j = 0; j < 20; j++) {
                n[j / 4] = n[j / 4] << 8 | padded[i + j] & 255;
            }
            due("feed", x.feed(n[0], n[1], n[2], n[3], n[4]), begin + i + 20);
        }
        due("end", x.end(begin + bytes.length), begin + bytes.length);
    }

    private static NameFall of(String text, int lines) {
        NameFall x = new NameFall();
        feed(x, text);
        due("land", x.land(), lines);
        due("fault(0)", x.fault(0), 0);
        due("fault(1)", x.fault(1), -1);
        return x;
    }

    private static NameFall valleys() {
        return of(VALLEYS, 30);
    }

    /** The text has the fault at the place where its mark ^ stands; it is not part of it. */
    private static void faulty(int fault, String marked) {
        int place = marked.indexOf('^');
        String text = marked.substring(0, place) + marked.substring(place + 1);
        NameFall x = new NameFall();
        feed(x, text);
        due("land of " + marked, x.land(), -1);
        due("fault(0) of " + marked, x.fault(0), fault);
        due("fault(1) of " + marked, x.fault(1), place);
        due("about(8) of " + marked, x.about(8), text.length());
    }

    private static String lines(String line, int from, int to) {
        StringBuilder b = new StringBuilder();
        for (int i = from; i < to; i++) {
            b.append(line.replace("?", "" + (char) ('a' + i)));
        }
        return b.toString();
    }

    public static void main(String[] args) {
        newObject();
        feedAndEnd();
        land();
        faults();
        tooMany();
        deathsAndTimes();
        alive();
        apartAndNear();
        may();
        lifted();
        judge();
        instead();
        cost();
        grasp();
        todayAndParted();
        changesAndRenewed();
        tellAndTold();
        safe();
        hurtAndChild();
        mean();
        wish();
        oldAndAbout();
        System.out.println(wrong == 0 ? "all promises are kept" : wrong + " answers are not as due");
        if (wrong != 0) {
            System.exit(1);
        }
    }

    private static void newObject() {
        promise = "promise 1";
        NameFall x = new NameFall();
        for (int what = 0; what <= 8; what++) {
            due("about(" + what + ")", x.about(what), 0);
        }
        due("fault(0)", x.fault(0), 0);
        due("fault(1)", x.fault(1), -1);
        due("die", x.die(0, 0), -1);
        due("untell", x.untell(0), false);
        due("land", x.land(), 0);
        due("NONE", NameFall.NONE, -1);
    }

    private static void feedAndEnd() {
        promise = "promise 2";
        NameFall x = new NameFall();
        for (int i = 1; i <= 80; i++) {
            due("feed " + i, x.feed(i, LOW, HIGH, -1, 0), 20 * i);
        }
        due("feed 81", x.feed(0, 0, 0, 0, 0), -1);
        due("about(8)", x.about(8), 1600);
        x.end(1581);
        due("feed at 1581", x.feed(0, 0, 0, 0, 0), -1);
        due("about(8)", x.about(8), 1581);
        x.end(1580);
        due("feed at 1580", x.feed(0, 0, 0, 0, 0), 1600);
        // meaning a;\nmeaning b : each number's highest byte comes first
        NameFall y = new NameFall();
        y.feed(0x6d65616e, 0x696e6720, 0x613b0a6d, 0x65616e69, 0x6e672062);
        y.feed(0x3b202020, 0, 0, 0, 0);
        due("end", y.end(21), 21);
        due("land", y.land(), 2);
        due("about(1)", y.about(1), 2);

        promise = "promise 3";
        NameFall z = new NameFall();
        due("end(0)", z.end(0), 0);
        due("end(1)", z.end(1), -1);
        z.feed(0, 0, 0, 0, 0);
        due("end(21)", z.end(21), -1);
        due("end(-1)", z.end(-1), -1);
        due("end(LOW)", z.end(LOW), -1);
        due("about(8)", z.about(8), 20);
        due("end(20)", z.end(20), 20);
        due("end(7)", z.end(7), 7);
        due("end(8)", z.end(8), -1);
        due("about(8)", z.about(8), 7);
    }

    private static void land() {
        promise = "promise 4";
        NameFall x = valleys();
        due("about(8)", x.about(8), 0);
        due("about(6)", x.about(6), 0);
        x.later(5);
        due("die", x.die(0, 50), 0);
        feed(x, "meaning x; meaning x;");
        due("land with a fault", x.land(), -1);
        due("fault(0)", x.fault(0), 3);
        due("fault(1)", x.fault(1), 19);
        due("about(8)", x.about(8), 21);
        due("about(2)", x.about(2), 6);
        due("about(6)", x.about(6), 1);
        due("alive", x.alive(0, 50, 5), 0);
        due("may", x.may(1, 4, 0, 55, 5), 0);
        due("end", x.end(10), 10);
        due("land", x.land(), 1);
        due("fault(0)", x.fault(0), 0);
        due("fault(1)", x.fault(1), -1);
        due("about(1)", x.about(1), 1);
        due("about(4)", x.about(4), 0);
        due("about(6)", x.about(6), 0);
        due("about(7)", x.about(7), 5);
        due("about(8)", x.about(8), 0);
        due("land of an empty tape", x.land(), 0);
        due("about(1)", x.about(1), 0);
        of(" \n ", 0);
        of("meaning a;meaning\nb  ;\n", 2);
        of("place v custom all alike3 near04 years099 back own;place u custom before alike 0 near 0 years 0001 back any;", 2);
        of("meaning abcdefgh;", 1);
        // rows, persons and talks of an earlier land are gone
        NameFall y = valleys();
        y.die(0, 50);
        feed(y, "place v custom all alike 1 near 1 years 10 back own; meaning m; person a called pira at v born 0;"
            + "person b called lena at v born 20; talk a b;");
        due("land", y.land(), 5);
        due("today", y.today(0, 0, 10, 0), -1);
        due("near", y.near(0, 1), 99);
        due("alive", y.alive(0, 60, 0), 1);
        due("tell", y.tell(0, 1, 0, 30, 0), -1);
        // a NAME may be told of each kind
        of("place x custom all alike 0 near 0 years 1 back any; meaning x; word x means x at x; person x called x at x born 0;", 4);
    }

    private static void faults() {
        promise = "promise 5";
        NameFall x = new NameFall();
        due("fault(-1)", x.fault(-1), -1);
        due("fault(2)", x.fault(2), -1);
        due("fault(LOW)", x.fault(LOW), -1);
        faulty(1, "^A");
        faulty(1, "meaning ^Fire;");
        faulty(1, "meaning\t^fire;".replace("\t^", "^\t"));
        faulty(1, "meaning a^\r;");
        faulty(1, "meaning a^\u0000;");
        faulty(1, "meaning a^\u00e9;");
        faulty(1, "meaning ^abcdefghi;");
        faulty(1, "place v custom all alike ^00001 near 1 years 1 back any;");
        faulty(1, "place v custom all alike ^1near 1 years 1 back any;");
        faulty(2, "^fire");
        faulty(2, "^;");
        faulty(2, "^12");
        faulty(2, "^custom v;");
        faulty(2, "meaning ^;");
        faulty(2, "meaning ^12;");
        faulty(2, "meaning ^talk;");
        faulty(2, "meaning a ^b;");
        faulty(2, "meaning a^");
        faulty(2, "meaning a  ^");
        faulty(2, "meaning^");
        faulty(2, "meaning a;^;");
        String v = "place v custom all alike 1 near 1 years 10 back own;";
        faulty(2, "place v ^all alike");
        faulty(2, "place v custom ^own");
        faulty(2, "place v custom all ^near");
        faulty(2, "place v custom all alike ^x");
        faulty(2, "place v custom all alike 1 near 1 years 1 back ^all;");
        faulty(4, "place v custom all alike ^4 near 5 years 0 back any;");
        faulty(4, "place v custom all alike 3 near ^5 years 0 back any;");
        faulty(4, "place v custom all alike 3 near 4 years ^0 back any;");
        faulty(4, "place v custom all alike 3 near 4 years ^100 back any;");
        faulty(4, "place v custom all alike ^9999 near 4 years 1 back any;");
        faulty(3, v + "place ^v custom");
        String m = v + "meaning a; meaning b; meaning c;";
        faulty(3, m + "meaning ^a;");
        faulty(5, m + "word w means ^d at v;");
        faulty(5, m + "word w means ^v at v;");
        faulty(5, m + "word w means a at ^a;");
        faulty(3, m + "word w means a at v ^v;");
        faulty(2, m + "word w means a at ^;");
        String four = lines("place ? custom all alike 1 near 1 years 10 back own;", 0, 4) + "meaning m;";
        faulty(3, four + "word w means m at a b ^a;");
        faulty(3, four + "word w means m at a b c d ^b;");
        faulty(5, four + "word w means m at a b c d ^e;");
        faulty(2, m + "word w means a at v ^at");
        faulty(5, m + "word w means a at v ^w;");
        faulty(3, m + "word w means a at v; word ^w means b at v;");
        faulty(2, m + "word ^means means a at v;");
        faulty(3, m + "turn a ^a b;");
        faulty(3, m + "turn a b ^a;");
        faulty(5, m + "turn ^d a b;");
        faulty(5, m + "turn a ^d b;");
        faulty(5, m + "turn a b ^d;");
        faulty(2, m + "turn a b ^;");
        faulty(5, "meaning a; meaning b; turn a b ^c; meaning c;");
        String p = m + "person p called x at v born 0; person q called x at v born 150 of p; person r called y at v born 3 of p q;";
        faulty(3, p + "person ^p called x");
        faulty(2, p + "person s called ^at");
        faulty(5, p + "person s called x at ^u born 0;");
        faulty(4, p + "person s called x at v born ^151;");
        faulty(5, p + "person s called x at v born 0 of ^s;");
        faulty(5, p + "person s called x at v born 0 of p ^s;");
        faulty(3, p + "person s called x at v born 0 of p ^p;");
        faulty(2, p + "person s called x at v born 0 of ^;");
        faulty(2, p + "person s called x at v born 0 of p q ^r;");
        faulty(2, p + "person s called x at v born 0 ^p;");
        faulty(3, p + "talk p ^p;");
        faulty(5, p + "talk p ^s;");
        faulty(5, p + "talk ^s p;");
        faulty(3, p + "talk p q; talk p ^q;");
        faulty(3, p + "talk p q; talk q ^p;");
        faulty(2, p + "talk p q ^r;");
        of(p + "turn a b b; turn a b b; talk p q; talk q r; talk r p;", 12);
        cutShort();
    }

    /** What was on the TAPE behind its end is no part of the text. */
    private static void cutShort() {
        String[] texts = {"meaning a|bcdefghijk", "meaning | abcdefghij", "place v custom all alike 1|2 near 1",
            "place v custom all alike 1|x near 1", "meaning a|;"};
        for (String text : texts) {
            NameFall x = new NameFall();
            int cut = text.indexOf('|');
            feed(x, text.replace("|", ""));
            due("end", x.end(cut), cut);
            due("land of " + text, x.land(), -1);
            due("fault(0) of " + text, x.fault(0), 2);
            due("fault(1) of " + text, x.fault(1), cut);
        }
    }

    private static void tooMany() {
        promise = "promise 4, 5";
        String v = "place v custom all alike 1 near 1 years 10 back own;";
        String places = lines("place ? custom all alike 1 near 1 years 10 back own;", 0, 4);
        of(places, 4);
        faulty(2, places + "^place e custom");
        faulty(2, places + "^place ;");
        String meanings = lines("meaning ?;", 0, 8);
        of(meanings, 8);
        faulty(2, meanings + "^meaning i;");
        String words = v + "meaning m;" + lines("word ? means m at v;", 0, 24);
        of(words, 26);
        faulty(2, words + "^word y means m at v;");
        String turns = "meaning a; meaning b;" + lines("turn a b b;", 0, 10);
        of(turns, 12);
        faulty(2, turns + "^turn a b b;");
        String persons = v + lines("person ? called x at v born 1;", 0, 12);
        of(persons, 13);
        faulty(2, persons + "^person m called x at v born 1;");
        StringBuilder talks = new StringBuilder(persons);
        for (int i = 1; i <= 11; i++) {
            talks.append("talk a ").append((char) ('a' + i)).append(';');
        }
        for (int i = 2; i <= 10; i++) {
            talks.append("talk b ").append((char) ('a' + i)).append(';');
        }
        NameFall x = of(talks.toString(), 33);
        due("about(5)", x.about(5), 20);
        faulty(2, talks + "^talk b l;");
    }

    private static void deathsAndTimes() {
        promise = "promise 6";
        NameFall x = valleys();
        due("die(-1)", x.die(-1, 50), -1);
        due("die(8)", x.die(8, 50), -1);
        due("die(HIGH)", x.die(HIGH, 50), -1);
        due("die year -1", x.die(0, -1), -1);
        due("die year 200", x.die(0, 200), -1);
        due("die unborn", x.die(1, 19), -1);
        due("about(6)", x.about(6), 0);
        due("die as born", x.die(1, 20), 0);
        due("die at 199", x.die(0, 199), 1);
        due("die again", x.die(0, 0), 2);
        due("about(6)", x.about(6), 3);
        for (int i = 3; i < 60; i++) {
            due("die " + i, x.die(0, i), i);
        }
        due("die 60", x.die(0, 60), -1);
        due("about(6)", x.about(6), 60);

        promise = "promise 7";
        due("untell(-1)", x.untell(-1), false);
        due("untell(60)", x.untell(60), false);
        due("untell(LOW)", x.untell(LOW), false);
        due("untell(59)", x.untell(59), true);
        due("untell(59)", x.untell(59), false);
        due("about(6)", x.about(6), 60);
        due("die stays full", x.die(0, 60), -1);
        due("alive by the one told ahead", x.alive(0, 57, 0), 1);
        due("alive by the one told ahead", x.alive(0, 58, 0), 0);

        promise = "promise 8";
        NameFall y = new NameFall();
        due("later(-1)", y.later(-1), -1);
        due("later(1001)", y.later(1001), -1);
        due("later(LOW)", y.later(LOW), -1);
        due("later(HIGH)", y.later(HIGH), -1);
        due("later(0)", y.later(0), 0);
        due("later(1)", y.later(1), 1);
        for (int i = 1; i < 100; i++) {
            due("later", y.later(1000), 1 + 1000 * i);
        }
        due("later(1000)", y.later(1000), -1);
        due("about(7)", y.about(7), 99001);
        due("later(999)", y.later(999), 100000);
        due("later(1)", y.later(1), -1);
        due("later(0)", y.later(0), 100000);
    }

    private static void alive() {
        promise = "promise 9";
        NameFall x = valleys();
        due("before birth", x.alive(1, 19, 0), 0);
        due("at birth", x.alive(1, 20, 0), 1);
        due("at 199", x.alive(1, 199, 0), 1);
        due("no person", x.alive(8, 50, 0), -1);
        due("no person", x.alive(-1, 50, 0), -1);
        due("no year", x.alive(1, 200, 0), -1);
        due("no year", x.alive(1, -1, 0), -1);
        x.later(2);
        due("die", x.die(1, 50), 0);
        due("the year ahead", x.alive(1, 49, 2), 1);
        due("that year", x.alive(1, 50, 2), 0);
        due("not known yet", x.alive(1, 50, 1), 1);
        due("not known yet", x.alive(1, 50, -1), 1);
        due("not known yet", x.alive(1, 50, LOW), 1);
        due("known later", x.alive(1, 50, 3), 0);
        due("known later", x.alive(1, 50, HIGH), 0);
        due("die", x.die(1, 60), 1);
        due("the last told counts", x.alive(1, 55, 2), 1);
        x.later(3);
        due("untell", x.untell(1), true);
        due("untold at 5", x.alive(1, 55, 5), 0);
        due("not untold at 4", x.alive(1, 55, 4), 1);
        due("die", x.die(1, 20), 2);
        due("untell", x.untell(2), true);
        due("told and untold at once", x.alive(1, 30, 5), 1);
        due("one dies as born", x.die(6, 25), 3);
        due("never alive", x.alive(6, 25, 5), 0);
    }

    private static void apartAndNear() {
        promise = "promise 10";
        NameFall x = valleys();
        due("alike", x.apart(0, 0), 0);
        due("one put in", x.apart(4, 0), 1);
        due("pira, lena", x.apart(0, 1), 3);
        due("kani, kanu", x.apart(3, 5), 1);
        due("lu, sol", x.apart(5, 6), 3);
        due("lu, pira", x.apart(5, 0), 4);
        due("no word", x.apart(6, 0), -1);
        due("no word", x.apart(-1, 0), -1);
        due("no person", x.apart(0, 8), -1);
        due("no person", x.apart(0, -1), -1);
        NameFall y = of("place v custom all alike 0 near 0 years 1 back any; meaning m;"
            + "word abcdefgh means m at v; word a means m at v; word kitten means m at v; word ab means m at v;"
            + "person p called bcdefghi at v born 0; person q called zzzzzzzz at v born 0;"
            + "person r called sitting at v born 0; person s called ba at v born 0;", 10);
        due("one left out, one put in", y.apart(0, 0), 2);
        due("all changed", y.apart(0, 1), 8);
        due("a", y.apart(1, 1), 8);
        due("kitten, sitting", y.apart(2, 2), 3);
        due("ab, ba", y.apart(3, 3), 2);

        promise = "promise 11";
        due("itself", x.near(2, 2), 0);
        due("parent", x.near(1, 0), 1);
        due("child", x.near(0, 1), 1);
        due("grandchild", x.near(0, 2), 2);
        due("by a common child", x.near(0, 3), 2);
        due("through them", x.near(2, 3), 4);
        due("none", x.near(0, 5), 99);
        due("no person", x.near(8, 0), -1);
        due("no person", x.near(0, -1), -1);
        NameFall z = of("place v custom all alike 0 near 0 years 1 back any;"
            + "person a called x at v born 9;" + "person b called x at v born 8 of a;" + lines("person ? called x at v born 1;", 2, 3)
            + "person d called x at v born 0 of b c;" + "person e called x at v born 0 of c;", 6);
        due("siblings", z.near(3, 4), 2);
        due("far", z.near(0, 4), 4);
    }

    private static void may() {
        promise = "promise 12";
        NameFall x = valleys();
        due("die a", x.die(0, 50), 0);
        due("free ahead of it", x.may(1, 4, 0, 49, 0), 1);
        due("barred", x.may(1, 4, 0, 50, 0), 0);
        due("barred, alike by 1", x.may(1, 4, 4, 50, 0), 0);
        due("free, apart by more", x.may(1, 4, 2, 50, 0), 1);
        due("all: not another place's", x.may(4, 1, 0, 50, 0), 1);
        due("lifted by own at 58", x.may(1, 4, 0, 58, 0), 1);
        due("not yet at 57", x.may(1, 4, 0, 57, 0), 0);
        due("dead", x.may(0, 4, 0, 50, 0), -1);
        due("hears dead", x.may(4, 0, 0, 50, 0), -1);
        due("unborn", x.may(2, 4, 0, 50, 0), -1);
        due("both one", x.may(1, 1, 0, 50, 0), -1);
        due("no word", x.may(1, 4, 6, 50, 0), -1);
        due("no word", x.may(1, 4, -1, 50, 0), -1);
        due("no person", x.may(1, 8, 0, 50, 0), -1);
        due("no person", x.may(-1, 4, 0, 50, 0), -1);
        due("no year", x.may(1, 4, 0, 200, 0), -1);
        due("not known", x.may(1, 4, 0, 50, -1), 1);
        // kin: d of u, near 1, for ever
        due("die d", x.die(3, 60), 1);
        due("kin: child", x.may(4, 1, 2, 60, 0), 0);
        due("kin: for ever", x.may(4, 1, 2, 199, 0), 0);
        due("kin: too far", x.may(1, 4, 2, 60, 0), 1);
        due("kin: alike 0", x.may(4, 1, 3, 60, 0), 1);
        // before: f of s, near 2, alike 2, 3 years
        due("die f", x.die(5, 70), 2);
        due("before: to the child", x.may(1, 6, 3, 70, 0), 0);
        due("before: to the child", x.may(7, 6, 3, 72, 0), 0);
        due("before: over", x.may(1, 6, 3, 73, 0), 1);
        due("before: the child may say it", x.may(6, 1, 3, 70, 0), 1);
        due("before: apart by 3", x.may(1, 6, 2, 70, 0), 1);
    }

    private static void lifted() {
        promise = "promise 12, LIFTED";
        String form = "place v custom all alike 0 near 0 years 20 back %s; meaning m; word ab means m at v;"
            + "person p called ab at v born 1; person q called zz at v born 1 of p; person r called zz at v born 1;"
            + "person s called ab at v born 20; person t called ab at v born 22 of q; person u called ab at v born 9 of p;";
        NameFall never = of(String.format(form, "never"), 9);
        NameFall any = of(String.format(form, "any"), 9);
        NameFall own = of(String.format(form, "own"), 9);
        for (NameFall x : new NameFall[] {never, any, own}) {
            due("die", x.die(0, 10), 0);
            due("at 9", x.may(1, 2, 0, 9, 0), 1);
            due("at 10", x.may(1, 2, 0, 10, 0), 0);
            due("at 19", x.may(1, 2, 0, 19, 0), 0);
            due("at 20", x.may(1, 2, 0, 20, 0), x == any ? 1 : 0);
            due("at 21", x.may(1, 2, 0, 21, 0), x == any ? 1 : 0);
            due("at 22", x.may(1, 2, 0, 22, 0), x == never ? 0 : 1);
            due("at 29", x.may(1, 2, 0, 29, 0), x == never ? 0 : 1);
            due("at 30", x.may(1, 2, 0, 30, 0), 1);
        }
        // one born in the very year lifts it at once
        due("untell", any.untell(0), true);
        due("die", any.die(0, 20), 1);
        due("at 20", any.may(1, 2, 0, 20, 0), 1);
        // who died does not lift it
        due("die", own.die(4, 22), 1);
        due("untell", own.untell(0), true);
        due("at 22", own.may(1, 2, 0, 22, 0), 0);
    }

    private static void judge() {
        promise = "promise 13";
        NameFall x = valleys();
        x.die(0, 50);
        due("first", x.judge(1, 4, 1, 50, 0), 0);
        due("free", x.judge(1, 4, 2, 50, 0), -2);
        due("second", x.judge(1, 4, 2 + 32 * 5, 50, 0), 1);
        due("both: first", x.judge(1, 4, 5 + 32, 50, 0), 0);
        due("fifth", x.judge(1, 4, 2 + 32 * (2 + 32 * (2 + 32 * (2 + 32 * 1))), 50, 0), 4);
        due("behind 0", x.judge(1, 4, 2 + 32 * 32, 50, 0), -2);
        due("no word behind 0", x.judge(1, 4, 2 + 32 * 32 * 31, 50, 0), -2);
        due("the other way", x.judge(4, 1, 1, 50, 0), -2);
        due("first is 0", x.judge(1, 4, 32, 50, 0), -1);
        due("no word", x.judge(1, 4, 7, 50, 0), -1);
        due("no word behind a barred one", x.judge(1, 4, 1 + 32 * 7, 50, 0), -1);
        due("0", x.judge(1, 4, 0, 50, 0), -1);
        due("-1", x.judge(1, 4, -1, 50, 0), -1);
        due("33554431", x.judge(1, 4, 33554431, 50, 0), -1);
        due("33554432", x.judge(1, 4, 33554433, 50, 0), -1);
        due("both one", x.judge(1, 1, 1, 50, 0), -1);
        due("dead", x.judge(0, 1, 1, 50, 0), -1);
        due("no year", x.judge(1, 4, 1, -1, 0), -1);
        due("not known", x.judge(1, 4, 1, 50, -1), -2);
    }

    private static void instead() {
        promise = "promise 14";
        NameFall x = valleys();
        due("first of the row", x.instead(1, 4, 0, 50, 0), 0);
        x.die(0, 50);
        due("next of the row", x.instead(1, 4, 0, 50, 0), 1);
        due("the row's order is as told", x.instead(1, 4, 2, 50, 0), 5);
        due("its own row ahead of place 0", x.instead(6, 4, 1, 50, 0), 3);
        due("borrowed", x.instead(6, 4, 0, 50, 0), 0);
        due("no word at all", x.instead(1, 4, 3, 50, 0), -1);
        due("die d", x.die(3, 60), 1);
        due("borrowed of place 0", x.instead(4, 1, 1, 60, 0), 3);
        due("no meaning", x.instead(1, 4, 4, 50, 0), -1);
        due("no meaning", x.instead(1, 4, -1, 50, 0), -1);
        due("both one", x.instead(1, 1, 0, 50, 0), -1);
        due("dead", x.instead(1, 0, 0, 50, 0), -1);
        due("no year", x.instead(1, 4, 0, 200, 0), -1);
        NameFall y = of("place v custom all alike 0 near 0 years 99 back never; place u custom all alike 0 near 0 years 99 back never;"
            + "meaning m; word a means m at u; word b means m at v u; word c means m at v;"
            + "person p called b at v born 0; person q called c at v born 0; person r called z at v born 0; person s called z at u born 0;", 10);
        due("b", y.instead(2, 3, 0, 10, 0), 1);
        y.die(0, 10);
        due("c", y.instead(2, 3, 0, 10, 0), 2);
        y.die(1, 10);
        due("a", y.instead(2, 3, 0, 10, 0), 0);
        due("of its own row", y.instead(3, 2, 0, 10, 0), 0);
    }

    private static void cost() {
        promise = "promise 15";
        NameFall x = valleys();
        due("a word", x.cost(1, 4, 0, 10 + 20, 0), 1);
        due("by two words", x.cost(1, 4, 3, 30, 0), 2);
        due("no meaning", x.cost(1, 4, 4, 30, 0), -1);
        due("no meaning", x.cost(1, 4, -1, 30, 0), -1);
        due("both one", x.cost(4, 4, 0, 30, 0), -1);
        due("unborn", x.cost(2, 4, 0, 30, 0), -1);
        due("no year", x.cost(1, 4, 0, 200, 0), -1);
        String head = "place v custom all alike 0 near 0 years 99 back never;" + lines("meaning ?;", 0, 8);
        String people = "person p called w at v born 0; person q called z at v born 0; person r called z at v born 0;";
        NameFall y = of(head + "word w means a at v;"
            + "turn h g g; turn g f f; turn f e e; turn e d d; turn d c c; turn c b b; turn b a a;" + people, 20);
        due("128", y.cost(1, 2, 7, 5, 0), 128);
        y.die(0, 5);
        due("none by none", y.cost(1, 2, 7, 5, 0), -1);
        NameFall z = of(head + "word w means a at v; word k means b at v;"
            + "turn a c d; turn c a b; turn d c b; turn c b b; turn d b b; turn e e f;".replace("turn e e f;", "turn e f b; turn f e b;")
            + people, 21);
        due("a word is 1, whatever the turns", z.cost(1, 2, 0, 5, 0), 1);
        due("ring without a way out", z.cost(1, 2, 4, 5, 0), -1);
        z.die(0, 5);
        due("by turns", z.cost(1, 2, 0, 5, 0), 4);
        due("least of two turns", z.cost(1, 2, 2, 5, 0), 2);
    }

    private static void grasp() {
        promise = "promise 16";
        NameFall x = valleys();
        due("v to u", x.grasp(1, 4, 30, 0), 3);
        due("u to v", x.grasp(4, 1, 30, 0), 3);
        due("v to s: stone alone", x.grasp(1, 6, 30, 0), 1);
        due("s to v: borrowed too", x.grasp(6, 1, 30, 0), 3);
        due("s to u", x.grasp(6, 4, 30, 0), 2);
        x.die(0, 50);
        due("v to u", x.grasp(1, 4, 50, 0), 2);
        due("both one", x.grasp(1, 1, 30, 0), -1);
        due("dead", x.grasp(0, 1, 50, 0), -1);
        due("no person", x.grasp(8, 1, 50, 0), -1);
        due("no year", x.grasp(4, 1, -1, 0), -1);
    }

    private static void todayAndParted() {
        promise = "promise 17";
        NameFall x = valleys();
        due("first", x.today(0, 0, 50, 0), 0);
        due("none in the row", x.today(2, 0, 50, 0), -1);
        x.die(0, 50);
        due("next", x.today(0, 0, 50, 0), 1);
        due("ahead of it", x.today(0, 0, 49, 0), 0);
        due("lifted", x.today(0, 0, 58, 0), 0);
        due("another place", x.today(1, 0, 50, 0), 0);
        due("like the name", x.today(0, 2, 50, 0), 5);
        x.die(3, 60);
        due("kin: stays", x.today(1, 1, 60, 0), 2);
        x.die(5, 70);
        due("before: stays", x.today(2, 1, 70, 0), 3);
        due("not known", x.today(0, 0, 50, -1), 0);
        due("no place", x.today(3, 0, 50, 0), -1);
        due("no place", x.today(-1, 0, 50, 0), -1);
        due("no meaning", x.today(0, 4, 50, 0), -1);
        due("no year", x.today(0, 0, 200, 0), -1);

        promise = "promise 18";
        due("v and u ahead", x.parted(0, 1, 49, 0), 0);
        due("v and u", x.parted(0, 1, 50, 0), 2);
        due("u and v", x.parted(1, 0, 50, 0), 2);
        due("u and s: only one has none", x.parted(1, 2, 49, 0), 2);
        due("itself", x.parted(0, 0, 50, 0), 0);
        due("no place", x.parted(0, 3, 50, 0), -1);
        due("no place", x.parted(-1, 0, 50, 0), -1);
        due("no year", x.parted(0, 1, 200, 0), -1);
    }

    private static void changesAndRenewed() {
        promise = "promise 19";
        NameFall x = valleys();
        x.die(0, 50);
        due("there and back", x.changes(0, 0, 0, 199, 0), 2);
        due("from 49 to 50", x.changes(0, 0, 49, 50, 0), 1);
        due("from 50 on", x.changes(0, 0, 50, 57, 0), 0);
        due("back at 58", x.changes(0, 0, 57, 58, 0), 1);
        due("not known", x.changes(0, 0, 0, 199, -1), 0);
        due("another place", x.changes(1, 0, 0, 199, 0), 0);
        due("like the name", x.changes(0, 2, 0, 199, 0), 2);
        due("from is to", x.changes(0, 0, 50, 50, 0), -1);
        due("from is above", x.changes(0, 0, 51, 50, 0), -1);
        due("no year", x.changes(0, 0, -1, 50, 0), -1);
        due("no year", x.changes(0, 0, 0, 200, 0), -1);
        due("no place", x.changes(3, 0, 0, 50, 0), -1);
        due("no meaning", x.changes(0, 4, 0, 50, 0), -1);
        due("no meaning", x.changes(0, -1, 0, 50, 0), -1);

        promise = "promise 20";
        due("of like ones the first", x.renewed(0, 0, 199, 0), 0);
        due("none", x.renewed(1, 0, 199, 0), -1);
        due("none in that time", x.renewed(0, 50, 57, 0), -1);
        due("no place", x.renewed(3, 0, 199, 0), -1);
        due("from is to", x.renewed(0, 50, 50, 0), -1);
        due("no year", x.renewed(0, 0, 200, 0), -1);
        NameFall y = of("place v custom all alike 0 near 0 years 5 back never; meaning a; meaning b;"
            + "word x means a at v; word k means b at v; word l means b at v;"
            + "person p called x at v born 0; person q called k at v born 0; person r called l at v born 0;", 9);
        y.die(0, 10);
        y.die(1, 10);
        y.die(2, 12);
        due("to none and back", y.changes(0, 0, 9, 20, 0), 2);
        due("k, l, none, k", y.changes(0, 1, 9, 20, 0), 3);
        due("the most", y.renewed(0, 9, 20, 0), 1);
    }

    private static void tellAndTold() {
        promise = "promise 21";
        NameFall x = valleys();
        due("straight", x.tell(1, 4, 0, 45, 0), 2);
        due("s has no word for fire", x.tell(1, 6, 0, 45, 0), -1);
        due("stone", x.tell(1, 7, 2, 45, 0), 3);
        due("no word", x.tell(1, 4, 3, 45, 0), -1);
        due("both one", x.tell(1, 1, 0, 45, 0), -1);
        due("unborn", x.tell(2, 4, 0, 45, 0), -1);
        due("no person", x.tell(1, 8, 0, 45, 0), -1);
        due("no meaning", x.tell(1, 4, 4, 45, 0), -1);
        due("no year", x.tell(1, 4, 0, 200, 0), -1);
        x.die(0, 46);
        due("fire is no more told", x.tell(1, 4, 0, 46, 0), -1);
        due("but back", x.tell(4, 1, 0, 46, 0), 2);
        due("die g", x.die(6, 46), 1);
        due("round by e and d", x.tell(1, 7, 2, 46, 0), 4);

        promise = "promise 22";
        int[] way = {1, 4, 3, 7};
        for (int i = 0; i < 4; i++) {
            due("told " + i, x.told(1, 7, 2, 46, i, 0), way[i]);
        }
        due("told 4", x.told(1, 7, 2, 46, 4, 0), -1);
        due("told -1", x.told(1, 7, 2, 46, -1, 0), -1);
        due("told HIGH", x.told(1, 7, 2, 46, HIGH, 0), -1);
        due("no way", x.told(1, 4, 0, 46, 0, 0), -1);
        due("both one", x.told(1, 1, 0, 45, 0, 0), -1);
        due("no meaning", x.told(1, 4, 4, 45, 0, 0), -1);
        // 0-5-1-4 and 0-2-3-4 are of one length: the first by numbers from the one who begins
        NameFall y = of("place v custom all alike 0 near 0 years 5 back never; meaning m; word w means m at v;"
            + lines("person ? called x at v born 0;", 0, 6)
            + "talk a f; talk f b; talk b e; talk d e; talk d c; talk a c;", 15);
        due("tell", y.tell(0, 4, 0, 0, 0), 4);
        due("told 1", y.told(0, 4, 0, 0, 1, 0), 2);
        due("told 2", y.told(0, 4, 0, 0, 2, 0), 3);
        due("told back 1", y.told(4, 0, 0, 0, 1, 0), 1);
        due("told back 2", y.told(4, 0, 0, 0, 2, 0), 5);
        // what is said is the first of the row, though the next would be grasped
        NameFall z = of("place v custom all alike 0 near 0 years 5 back never; place u custom all alike 0 near 0 years 5 back never;"
            + "meaning m; word a means m at v; word b means m at v u; person p called x at v born 0; person q called x at u born 0; talk p q;", 8);
        due("not grasped", z.tell(0, 1, 0, 0, 0), -1);
        due("grasped", z.tell(1, 0, 0, 0, 0), 2);
    }

    private static void safe() {
        promise = "promise 23";
        NameFall x = valleys();
        due("as one is called", x.safe(0, 0), 0);
        due("apart by 1", x.safe(0, 4), 0);
        due("apart by more", x.safe(0, 1), 1);
        due("alike 0", x.safe(1, 2), 0);
        due("alike 0", x.safe(1, 4), 1);
        due("alike 2", x.safe(2, 3), 0);
        due("alike 2, pirak and pira", x.safe(2, 4), 0);
        due("alike 2, lu and sol", x.safe(2, 5), 1);
        due("no place", x.safe(3, 0), -1);
        due("no place", x.safe(-1, 0), -1);
        due("no word", x.safe(0, 6), -1);
        due("no word", x.safe(0, -1), -1);
    }

    private static void hurtAndChild() {
        promise = "promise 24";
        NameFall x = valleys();
        due("pira, pirak", x.hurt(0, 0, 50, 0), 2);
        due("tolo", x.hurt(0, 1, 50, 0), 1);
        due("not of the place's rows", x.hurt(1, 3, 50, 0), 0);
        due("of the place's rows", x.hurt(1, 2, 50, 0), 1);
        due("alike 2: kani is apart by 3", x.hurt(2, 2, 50, 0), 0);
        x.die(0, 50);
        due("it would come back", x.hurt(0, 0, 50, 0), -1);
        due("like it, but not called so", x.hurt(0, 4, 50, 0), 2);
        due("lifted", x.hurt(0, 0, 58, 0), 2);
        due("not begun", x.hurt(0, 0, 49, 0), 2);
        due("another place", x.hurt(1, 0, 50, 0), 1);
        x.die(3, 60);
        due("never", x.hurt(1, 2, 60, 0), 1);
        x.die(7, 80);
        due("before, any", x.hurt(2, 0, 80, 0), -2);
        due("over", x.hurt(2, 0, 83, 0), 1);
        due("no place", x.hurt(3, 0, 50, 0), -1000);
        due("no word", x.hurt(0, 6, 50, 0), -1000);
        due("no word", x.hurt(0, -1, 50, 0), -1000);
        due("no year", x.hurt(0, 0, 200, 0), -1000);
        NameFall y = of("place v custom kin alike 0 near 0 years 5 back own; meaning m; word w means m at v;"
            + lines("person ? called w at v born 0;", 0, 3), 6);
        y.die(0, 10);
        y.die(1, 11);
        due("less 3 for each", y.hurt(0, 0, 11, 0), -5);
        due("the first is over", y.hurt(0, 0, 15, 0), -2);

        promise = "promise 25";
        NameFall z = valleys();
        due("least, first of like ones", z.child(0, 50, 0), 1);
        due("none of its rows", z.child(1, 50, 0), 1);
        z.die(0, 50);
        due("the held ones do not count", z.child(0, 50, 0), 1);
        z.die(7, 80);
        due("it comes back: before holds nothing", z.child(2, 80, 0), 0);
        due("no place", z.child(3, 50, 0), -1);
        due("no year", z.child(0, -1, 0), -1);
        due("no word", of("place v custom kin alike 0 near 0 years 5 back own;", 1).child(0, 5, 0), -1);
        due("child of kin", y.child(0, 11, 0), 0);
    }

    private static void mean() {
        promise = "promise 26";
        NameFall x = of("place v custom all alike 0 near 0 years 5 back any; meaning a; meaning b;"
            + "word k means a at v; word l means a at v; word n means b at v;"
            + "person p called k at v born 0; person q called l at v born 0; person r called n at v born 30;"
            + "person s called n at v born 40;", 10);
        // a falls if both die
        due("upper", x.mean(0, 3, 10, 0, 0), 191);
        due("lower", x.mean(0, 3, 10, 1, 0), 100);
        due("odds 0", x.mean(0, 0, 10, 0, 0), 2);
        due("odds 0", x.mean(0, 0, 10, 1, 0), 1);
        due("odds 10", x.mean(0, 10, 10, 0, 0), 1);
        due("with r", x.mean(0, 5, 30, 0, 0), 5);
        due("with r", x.mean(0, 5, 30, 1, 0), 4);
        due("s is born: r's fall is lifted at once", x.mean(0, 5, 40, 0, 0), 5);
        due("s is born: r's fall is lifted at once", x.mean(0, 5, 40, 1, 0), 4);
        due("s is born: but the fall of s is not", x.mean(0, 10, 40, 0, 0), 0);
        x.die(0, 10);
        due("k is held", x.mean(0, 5, 12, 0, 0), 3);
        due("k is held", x.mean(0, 5, 12, 1, 0), 2);
        due("not known", x.mean(0, 3, 10, 0, -1), 191);
        due("no place", x.mean(1, 5, 10, 0, 0), -1);
        due("no odds", x.mean(0, 11, 10, 0, 0), -1);
        due("no odds", x.mean(0, -1, 10, 0, 0), -1);
        due("no year", x.mean(0, 5, 200, 0, 0), -1);
        due("no part", x.mean(0, 5, 10, 2, 0), -1);
        due("no part", x.mean(0, 5, 10, -1, 0), -1);
        NameFall y = of("place v custom all alike 0 near 0 years 5 back never; place u custom kin alike 3 near 4 years 9 back never;"
            + "meaning a; word k means a at v u;" + lines("person ? called k at v born 0;", 0, 10)
            + "person k called k at v born 5; person l called k at u born 0;", 16);
        due("ten", y.mean(0, 1, 4, 0, 0), 3486784401L);
        due("ten", y.mean(0, 1, 4, 1, 0), 10000000000L);
        due("eleven", y.mean(0, 1, 5, 0, 0), -2);
        due("eleven, no part", y.mean(0, 1, 5, 2, 0), -1);
        due("kin: nothing falls", y.mean(1, 10, 5, 0, 0), 1);
        y.die(0, 5);
        due("ten left, held", y.mean(0, 0, 5, 0, 0), 0);
        due("ten left, held", y.mean(0, 0, 5, 1, 0), 1);
    }

    private static void wish() {
        promise = "promise 27";
        NameFall x = valleys();
        due("nothing falls: the first", x.wish(0, 45, 0), 0);
        due("no place", x.wish(3, 45, 0), -1);
        due("no place", x.wish(-1, 45, 0), -1);
        due("no year", x.wish(0, 200, 0), -1);
        String form = "place v custom all alike 3 near 0 years 99 back never; place u custom all alike 0 near 0 years 99 back never; meaning m;"
            + "word %s means m at v; person p called abcd at v born 0; person q called zzzz at v born 0; person r called zzzz at v born 0;";
        NameFall same = of(String.format(form, "abcd"), 7);
        same.die(0, 10);
        due("kin of none alive: 10", same.wish(0, 10, 0), 10);
        due("held by all", same.grasp(1, 2, 10, 0), 0);
        due("the other place's custom", same.wish(1, 10, 0), 0);
        NameFall like = of(String.format(form, "abxy"), 7);
        like.die(0, 10);
        due("all, alike 0", like.wish(0, 10, 0), 0);
        due("its own custom stays", like.grasp(1, 2, 10, 0), 0);
        due("today stays, too", like.today(0, 0, 10, 0), -1);
        NameFall kin = of("place v custom all alike 0 near 1 years 99 back never; meaning m; word ab means m at v;"
            + "person p called ab at v born 0; person q called z at v born 1 of p; person r called z at v born 1 of p; person s called z at v born 1 of p;", 7);
        kin.die(0, 10);
        due("kin and before bar all, too, but not by alike", kin.wish(0, 10, 0), 0);
        due("all dead", kin.wish(0, 0, 0), 0);
    }

    private static void oldAndAbout() {
        promise = "promise 28";
        NameFall x = valleys();
        due("fire: none in all", x.old(0, 0), -1);
        due("fire: none in all", x.old(0, 1), -1);
        due("stone", x.old(2, 0), 2);
        due("stone", x.old(2, 1), 4);
        due("rain: none in all", x.old(1, 0), -1);
        due("no meaning", x.old(4, 0), -1);
        due("no meaning", x.old(-1, 1), -1);
        due("no what", x.old(2, 2), -1);
        due("no what", x.old(2, -1), -1);
        NameFall none = of("meaning m;", 1);
        due("no places", none.old(0, 0), -1);
        due("no places", none.old(0, 1), -1);
        NameFall bare = of("place v custom all alike 0 near 0 years 1 back never; place w custom kin alike 0 near 0 years 1 back any;"
            + "meaning bare; meaning half; meaning full; word a means half at v; word b means half at w; word c means full at w v;", 8);
        for (int what = 0; what <= 1; what++) {
            due("no word at all, what " + what, bare.old(0, what), -1);
            due("a word of each place, none of both, what " + what, bare.old(1, what), -1);
        }
        due("one of both", bare.old(2, 0), 1);
        due("one of both", bare.old(2, 1), 2);

        promise = "promise 29";
        int[] counts = {3, 4, 6, 3, 8, 6, 0, 0, 0};
        for (int what = 0; what < counts.length; what++) {
            due("about(" + what + ")", x.about(what), counts[what]);
        }
        x.die(0, 50);
        x.die(0, 51);
        x.untell(0);
        x.later(7);
        x.feed(0, 0, 0, 0, 0);
        due("deaths", x.about(6), 2);
        due("time", x.about(7), 7);
        due("tape", x.about(8), 20);
        due("about(9)", x.about(9), -1);
        due("about(-1)", x.about(-1), -1);
        due("about(LOW)", x.about(LOW), -1);
    }
}
