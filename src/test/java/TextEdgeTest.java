import java.util.ArrayList;
import java.util.List;
import java.util.function.Predicate;
import java.util.function.Supplier;

/** Promise 15, sentence by sentence: at every place of every STATEMENT each TOKEN that can stand there, and each that can't. */
public final class TextEdgeTest {
    private static final Edges edges = new Edges();
    private static final Supplier<EachRoadOnce> EMPTY = Edges::empty;
    private static final Supplier<EachRoadOnce> RICH = Edges::rich;
    /** The words that begin a STATEMENT. */
    private static final List<String> FIRST = List.of("road", "one", "gone", "at", "anew", "shut");
    private static final String[] WORDS = {"road", "one", "gone", "at", "anew", "shut", "miles", "round", "x", "roa", "roads", "roundone", "mile", "a", "zz"};
    private static final String[] NUMBERS = {"0", "1", "2", "3", "4", "5", "6", "7", "8", "9", "10", "15", "16", "59", "60", "61", "98", "99",
        "00", "01", "02", "04", "07", "08", "000", "001", "007", "060", "100", "099", "999999999999"};

    public static void main(String[] args) {
        firstWord();
        roadSlots();
        otherSlots();
        endsTooEarly();
        tokens();
        strangeBytes();
        blanks();
        room();
        thereThen();
        whatComes();
        allOrNothing();
        sizes();
        edges.end("TextEdgeTest", 15);
    }

    private static List<String> tokensOfAllSorts() {
        List<String> all = new ArrayList<>(List.of(WORDS));
        all.addAll(List.of(NUMBERS));
        all.addAll(List.of(";", ";;", "#", "-", "A", "\t", "\n", ",", "\u0000", "\u00e9", "\u00ff", ":", "/", "`", "{"));
        return all;
    }

    private static Predicate<String> number(int low, int high) {
        return t -> t.matches("[0-9]{1,2}") && Integer.parseInt(t) >= low && Integer.parseInt(t) <= high;
    }

    private static Predicate<String> numberBut(int low, int high, int but) {
        return t -> number(low, high).test(t) && Integer.parseInt(t) != but;
    }

    /** Behind the text each token in its turn: with the rest it is a LAND, if it can stand there; else the FAULT is its place. */
    private static void slot(String ahead, Predicate<String> can, String rest, String... but) {
        List<String> tokens = tokensOfAllSorts();
        tokens.removeAll(List.of(but));
        for (String token : tokens) {
            String text = ahead + token + rest;
            if (can.test(token)) {
                edges.fine("<" + text + ">", RICH, x -> x.wipe() == 5 ? Check.landOf(x, text) : Check.BAD, text.split(";").length);
            } else {
                edges.fault("<" + text + ">", RICH, text, ahead.length());
            }
        }
        edges.fault("<" + ahead + "> ends too early", RICH, ahead, ahead.length());
        edges.fault("<" + ahead + ">, blanks, ends too early", RICH, ahead + "   ", ahead.length() + 3);
    }

    private static void firstWord() {
        edges.of(15, "STATEMENTS, one or more, with ; between");
        edges.fault("none", RICH, "", 0);
        edges.fault("none in an empty land", EMPTY, "", 0);
        edges.fault("none, but blanks", RICH, "  ", 2);
        edges.fault("; alone", RICH, ";", 0);
        edges.fault("; ahead", RICH, ";one 1", 0);
        edges.fault("; behind", RICH, "one 1;", 6);
        edges.fault("; and blanks behind", RICH, "one 1; ", 7);
        edges.fault("; twice between", RICH, "one 1;;one 1", 6);
        edges.fault("no ; between", RICH, "one 1 one 1", 6);
        edges.fault("a comma between", RICH, "one 1,one 1", 5);
        String[] statements = {"road 3 4 miles 5", "one 3", "gone 1 2", "at 1 7", "anew 99", "shut 0"};
        for (String ahead : new String[] {"", "  ", "anew 1;", "  anew 1 ;  "}) {
            for (String statement : statements) {
                String text = ahead + statement;
                edges.fine("<" + text + ">", RICH, x -> x.wipe() == 5 ? Check.landOf(x, text) : Check.BAD, text.split(";").length);
            }
            for (String token : tokensOfAllSorts()) {
                if (!FIRST.contains(token)) {
                    edges.fault("<" + ahead + token + ">", RICH, ahead + token, ahead.length());
                    edges.fault("<" + ahead + token + " 1>", RICH, ahead + token + " 1", ahead.length());
                }
            }
        }
    }

    private static void roadSlots() {
        edges.of(15, "road A B miles N, perhaps round");
        // Without A that is B: the FAULT would be B's.
        slot("road ", number(0, 7), " 03 miles 1", "3");
        slot("road  ", number(0, 7), " 03 miles 1 round", "3");
        slot("road 3 ", numberBut(0, 7, 3), " miles 1");
        slot("road 0 ", numberBut(0, 7, 0), " miles 1");
        slot("road 07  ", numberBut(0, 7, 7), " miles 1");
        slot("road 3 4 ", t -> t.equals("miles"), " 1");
        slot("road 3 4  ", t -> t.equals("miles"), " 1 round");
        slot("road 3 4 miles ", number(1, 60), "");
        slot("road 3 4 miles  ", number(1, 60), " round;anew 0");
        edges.of(15, "perhaps round");
        for (String text : new String[] {"road 3 4 miles 5 round", "road 3 4 miles 5round", "road 3 4 miles 5", "road 3 4 miles 5 "}) {
            int round = text.contains("round") ? 1 : 0;
            edges.fine("<" + text + ">", RICH, x -> x.wipe() == 5 && Check.landOf(x, text) == 1 ? x.roadOf(4, 4) : Check.BAD, round);
        }
        afterRoad("road 3 4 miles 5 ", true);
        afterRoad("road 3 4 miles 5 round ", false);
        edges.fine("round, then a STATEMENT", RICH, x -> x.wipe() == 5 ? Check.landOf(x, "road 3 4 miles 5 round;one 1") : Check.BAD, 2);
    }

    /** Nothing but ; and perhaps round, or the end, can stand behind. */
    private static void afterRoad(String ahead, boolean mayBeRound) {
        for (String token : tokensOfAllSorts()) {
            boolean can = mayBeRound && token.equals("round");
            if (!can && !token.equals(";") && !token.equals(";;")) {
                edges.fault("<" + ahead + token + ">", RICH, ahead + token, ahead.length());
                edges.fault("<" + ahead + token + ";one 1>", RICH, ahead + token + ";one 1", ahead.length());
            }
        }
        edges.fault("; and no more", RICH, ahead + ";", ahead.length() + 1);
        edges.fault("; twice", RICH, ahead + ";;", ahead.length() + 1);
    }

    private static void otherSlots() {
        edges.of(15, "one H; gone P R");
        slot("one ", number(0, 7), "");
        slot("one  ", number(0, 7), ";one 1");
        slot("gone ", number(0, 1), " 3");
        slot("gone 0 ", number(0, 3), "");
        slot("gone 1 ", number(0, 3), ";gone 1 0");
        edges.of(15, "at P A (one is at a PLACE, and has been there); anew N; shut R.");
        slot("at ", number(0, 1), " 7");
        slot("at 1 ", number(0, 7), "");
        slot("anew ", number(0, 99), "");
        slot("anew  ", number(0, 99), ";anew 0");
        slot("shut ", number(0, 3), "");
        slot("shut  ", number(0, 3), ";shut 0");
        for (String ahead : new String[] {"one 1 ", "gone 0 0 ", "at 0 0 ", "anew 9 ", "shut 1 "}) {
            afterRoad(ahead, false);
        }
    }

    private static void endsTooEarly() {
        edges.of(15, "THE TAPE's size, if it ends too early.");
        String[] whole = {"road 0 1 miles 9", "one 1", "gone 1 3", "at 0 7", "anew 4", "shut 2"};
        for (String text : whole) {
            for (int cut = 0; cut < text.length(); cut++) {
                if (cut == 0 || text.charAt(cut) == ' ') {
                    String shorter = text.substring(0, cut);
                    edges.fault("<" + shorter + ">", RICH, shorter, cut);
                    edges.fault("<" + shorter + " >", RICH, shorter + " ", cut + 1);
                    edges.fault("behind another, <" + shorter + ">", RICH, "anew 8;" + shorter, cut + 7);
                }
            }
            edges.fine("<" + text + ">", RICH, x -> x.wipe() == 5 ? Check.landOf(x, text) : Check.BAD, 1);
            edges.fine("<" + text + " >", RICH, x -> x.wipe() == 5 ? Check.landOf(x, text + " ") : Check.BAD, 1);
        }
        edges.fault("a word that ends too early is another word", RICH, "anew 1;on", 7);
        edges.fault("so is a part of miles", RICH, "road 0 1 mile", 9);
    }

    private static void tokens() {
        edges.of(15, "TOKENS, each as long as can be: WORDS (a .. z)");
        String[] texts = {"road 0 1 miles 3 round", "one 1", "gone 0 0", "at 0 0", "anew 1", "shut 0"};
        for (String text : texts) {
            for (String word : text.split("[^a-z]+")) {
                wordsLike(text, word);
            }
        }
        edges.of(15, "TOKENS, each as long as can be");
        edges.fault("oneone is one word", RICH, "oneone 1", 0);
        edges.fault("roundround is one word", RICH, "road 0 1 miles 3 roundround", 17);
        edges.fault("123 is one NUMBER", RICH, "one 123", 4);
        edges.fault("12 is one NUMBER", RICH, "road 12 miles 3", 5);
        edges.fine("a word ends where a NUMBER begins", RICH, x -> x.wipe() == 5 ? Check.landOf(x, "one1;road1 2miles3round") : Check.BAD, 2);
        edges.fault("a blank ends a word", RICH, "on e 1", 0);
        edges.fault("a blank ends a NUMBER", RICH, "anew 1 2", 7);
        edges.of(15, "also a NUMBER that may not be, or has more than 2 digits");
        String[] fine = {"anew 9", "anew 09", "anew 99", "anew 00", "one 07", "shut 03", "gone 01 03", "at 00 07", "road 00 01 miles 01", "road 0 1 miles 60"};
        for (String text : fine) {
            edges.fine("<" + text + ">", RICH, x -> x.wipe() == 5 ? Check.landOf(x, text) : Check.BAD, 1);
        }
        edges.fault("three digits", RICH, "anew 009", 5);
        edges.fault("three digits of a PLACE", RICH, "one 007", 4);
        edges.fault("three digits of one of the PEOPLE", RICH, "at 001 1", 3);
        edges.fault("three digits of a ROAD", RICH, "shut 000", 5);
        edges.fault("three digits of MILES", RICH, "road 0 1 miles 060", 15);
        edges.fault("250 bytes less a few of digits", RICH, "anew " + "0".repeat(245), 5);
        edges.fault("as many digits as wrap round to 1", RICH, "anew 4294967297", 5);
    }

    /** The text with a word in place of which stands one of a letter more, less, or another one. */
    private static void wordsLike(String text, String word) {
        int place = text.indexOf(word);
        String ahead = text.substring(0, place);
        String rest = text.substring(place + word.length());
        List<String> like = new ArrayList<>();
        for (char letter = 'a'; letter <= 'z'; letter++) {
            like.add(letter + word);
            like.add(word + letter);
        }
        for (int i = 0; i < word.length(); i++) {
            like.add(word.substring(0, i) + word.substring(i + 1));
            for (char letter : new char[] {'a', 'm', 'z'}) {
                like.add(word.substring(0, i) + letter + word.substring(i + 1));
            }
        }
        like.remove(word);
        like.removeAll(FIRST);
        for (String other : like) {
            edges.fault("<" + ahead + other + rest + ">", RICH, ahead + other + rest, place);
        }
    }

    private static void strangeBytes() {
        edges.of(15, "a byte that begins none");
        for (int b = 0; b <= 255; b++) {
            boolean begins = b >= 'a' && b <= 'z' || b >= '0' && b <= '9' || b == ';' || b == ' ';
            if (!begins) {
                edges.fault("byte " + b + " ahead", RICH, (char) b + "one 1", 0);
                edges.fault("byte " + b + " behind a word", RICH, "one" + (char) b + " 1", 3);
                edges.fault("byte " + b + " behind", RICH, "one 1" + (char) b, 5);
                edges.fault("byte " + b + " behind ;", RICH, "one 1; " + (char) b, 7);
            }
        }
        edges.of(15, "The FAULT: the place of the first byte of the first TOKEN that can't stand there");
        edges.fault("what can't stand there ahead of it comes first", RICH, "one 1 1 #", 6);
        edges.fault("the first byte, not the last", RICH, "one  seven", 5);
        edges.fault("of two the first", RICH, "anew 100;one 8", 5);
        edges.of(15, "WORDS (a .. z), NUMBERS (digits), the SIGN ;");
        edges.fault("a WORD of a alone", RICH, "one 1;a", 6);
        edges.fault("a WORD of z alone", RICH, "one 1;z", 6);
        edges.fault("what lies ahead of a", RICH, "one`1", 3);
        edges.fault("what lies behind z", RICH, "one{1", 3);
        edges.fault("what lies ahead of 0", RICH, "anew/1", 4);
        edges.fault("what lies behind 9", RICH, "anew:1", 4);
        edges.fault("a capital", RICH, "One 1", 0);
        edges.fault("a capital in a word", RICH, "oNe 1", 0);
    }

    private static void blanks() {
        edges.of(15, "blanks (32) may stand anywhere between");
        String[] fine = {"one 1", " one 1", "one  1", "one 1 ", "   one   1   ", "one1", "one 1;one 1", "one 1 ; one 1", "one1 ;one1", "one1;  one1"};
        for (String text : fine) {
            edges.fine("<" + text + ">", RICH, x -> x.wipe() == 5 ? Check.landOf(x, text) : Check.BAD, text.split(";").length);
        }
        edges.fault("31 is none", RICH, "one\u001f1", 3);
        edges.fault("33 is none", RICH, "one!1", 3);
        edges.fault("160 is none", RICH, "one\u00a01", 3);
        edges.fault("a tab is none", RICH, "one\t1", 3);
        edges.fault("an end of line is none", RICH, "one 1\n", 5);
        edges.fault("0 is none", RICH, "one 1\u0000", 5);
    }

    private static EachRoadOnce roads(int n) {
        EachRoadOnce x = new EachRoadOnce();
        for (int i = 0; i < n; i++) {
            x.road(0, 1, 1, false);
        }
        return x;
    }

    private static EachRoadOnce people(int n) {
        EachRoadOnce x = new EachRoadOnce();
        for (int i = 0; i < n; i++) {
            x.one(0);
        }
        return x;
    }

    private static void room() {
        edges.of(15, "what there is no room for: its word");
        edges.fine("the sixteenth ROAD", () -> roads(15), x -> Check.landOf(x, "road 0 1 miles 1"), 1);
        edges.fine("sixteen ROADS in one text", EMPTY, x -> Check.landOf(x, "road0 1miles1;".repeat(15) + "road0 1miles1"), 16);
        edges.fault("seventeen ROADS in one text", EMPTY, "road0 1miles1;".repeat(16) + "road0 1miles1", 224);
        edges.fault("the seventeenth ROAD", () -> roads(16), "road 0 1 miles 1", 0);
        edges.fault("the seventeenth ROAD behind others", () -> roads(15), " road 0 1 miles 1 ;  road 0 1 miles 1", 21);
        edges.fault("its word, not what is wrong behind it", () -> roads(16), "road 1 1 miles 1", 0);
        edges.fault("its word, though THE TAPE ends too early", () -> roads(16), "road", 0);
        edges.fault("what is wrong ahead comes first", () -> roads(16), "anew 100;road 0 1 miles 1", 5);
        edges.fine("the sixth of the PEOPLE", () -> people(5), x -> Check.landOf(x, "one 7"), 1);
        edges.fine("six in one text", EMPTY, x -> Check.landOf(x, "one0;one0;one0;one0;one0;one0"), 6);
        edges.fault("seven in one text", EMPTY, "one0;one0;one0;one0;one0;one0;one0", 30);
        edges.fault("the seventh of the PEOPLE", () -> people(6), "one 7", 0);
        edges.fault("its word, not what is wrong behind it", () -> people(6), "one 8", 0);
        edges.fault("its word, though THE TAPE ends too early", () -> people(6), "anew 1; one ", 8);
        edges.fine("no room for PEOPLE, but for ROADS", () -> people(6), x -> Check.landOf(x, "road 0 1 miles 1"), 1);
        edges.fine("no room for ROADS, but for PEOPLE", () -> roads(16), x -> Check.landOf(x, "one 1"), 1);
        edges.fine("no room for either is needed", Edges::full, x -> x.wipe() == 250 ? Check.landOf(x, "gone 5 15;at 5 0;shut 15;anew 99") : Check.BAD, 4);
    }

    private static void thereThen() {
        edges.of(15, "B that is A; a ROAD, one of the PEOPLE there isn't then");
        for (int a = 0; a < 8; a++) {
            edges.fault("B that is A", RICH, "road " + a + " " + a + " miles 1", 7);
            edges.fault("B that is A, by two digits", RICH, "road " + a + " 0" + a + " miles 1", 7);
        }
        edges.fault("nobody yet", EMPTY, "at 0 1", 3);
        edges.fault("nobody yet, one later", EMPTY, "at 0 1;one 1", 3);
        edges.fine("one ahead", EMPTY, x -> Check.landOf(x, "one 1;at 0 1"), 2);
        edges.fault("one ahead, not two", EMPTY, "one 1;at 1 1", 9);
        edges.fault("no ROAD yet", EMPTY, "shut 0", 5);
        edges.fault("no ROAD yet, one later", EMPTY, "shut 0;road 0 1 miles 1", 5);
        edges.fine("a ROAD ahead", EMPTY, x -> Check.landOf(x, "road 0 1 miles 1;shut 0"), 2);
        edges.fault("a ROAD ahead, not two", EMPTY, "road 0 1 miles 1;shut 1", 22);
        edges.fault("one, but no ROAD", EMPTY, "one 1;gone 0 0", 13);
        edges.fault("a ROAD, but nobody", EMPTY, "road 0 1 miles 1;gone 0 0", 22);
        edges.fine("both ahead", EMPTY, x -> Check.landOf(x, "one 5;road 0 1 miles 1;gone 0 0"), 3);
        edges.fine("the last of all", Edges::full, x -> x.wipe() == 250 ? Check.landOf(x, "gone 5 15") : Check.BAD, 1);
        edges.fault("one behind the last of the PEOPLE", Edges::full, "gone 6 15", 5);
        edges.fault("one behind the last ROAD", Edges::full, "gone 5 16", 7);
        edges.fault("one behind the last ROAD", Edges::full, "shut 16", 5);
    }

    private static void whatComes() {
        edges.of(15, "one of the PEOPLE has gone along a ROAD once more, in THE YEAR that is; where they are stays");
        EachRoadOnce x = Edges.rich();
        x.wipe();
        edges.due("a LAND", Check.landOf(x, "gone 1 0;gone 0 0;gone 0 0;gone 1 3"), 4);
        edges.due("in THE YEAR", x.when(1, 0), 1);
        edges.due("a shut one, too", x.when(1, 3), 1);
        edges.due("twice more", x.oneOf(0, 3), 3);
        edges.due("in all", x.status(4), 5);
        edges.due("PLACE stays", x.oneOf(1, 1), 2);
        edges.due("PLACE stays", x.oneOf(0, 1), 1);
        edges.due("BEEN stays", x.oneOf(1, 2), 4);
        edges.due("not LEFT then", x.left(1), 6);
        x.year();
        edges.due("later", Check.landOf(x, "gone 1 2"), 1);
        edges.due("in THE YEAR that is", x.when(1, 2), 2);
        edges.due("a ROUND one stays LEFT", x.left(1), 6);
        edges.of(15, "one is at a PLACE, and has been there");
        edges.due("at the last PLACE", Check.landOf(x, "at 0 7;at 1 0"), 2);
        edges.due("PLACE", x.oneOf(0, 1), 7);
        edges.due("BEEN", x.oneOf(0, 2), 0x83);
        edges.due("PLACE", x.oneOf(1, 1), 0);
        edges.due("BEEN", x.oneOf(1, 2), 5);
        edges.due("HOME stays", x.oneOf(0, 0), 0);
        edges.due("no ROAD is gone along", x.oneOf(0, 3), 3);
        edges.of(15, "THE TAPE is a LAND: how many STATEMENTS");
        for (int n = 1; n <= 41; n++) {
            edges.due(n + " STATEMENTS", Check.landOf(Check.read("one 3"), "at0 1;".repeat(n - 1) + "at0 2"), n);
        }
    }

    private static void allOrNothing() {
        edges.of(15, "All comes to what there is, or nothing.");
        String[] statements = {"road 5 6 miles 7 round;", "one 6;", "gone 1 1;", "at 0 6;", "anew 77;", "shut 0;"};
        for (String statement : statements) {
            edges.fault("<" + statement + "> ahead of a FAULT", RICH, statement + "x", statement.length());
            edges.fault("<" + statement + "> ahead of THE TAPE's end", RICH, statement, statement.length());
        }
        String all = String.join("", statements);
        edges.fault("all of them ahead of a FAULT", RICH, all + "!", all.length());
        edges.of(15, "THE TAPE is empty then, either way.");
        EachRoadOnce x = Edges.full();
        edges.due("250 bytes that are one", x.land(), 1);
        edges.due("empty", x.status(5), 0);
        edges.due("there is room again", x.feed(0x20202020, 4), 4);
        edges.due("four that are none", x.land(), -24);
        edges.due("empty", x.status(5), 0);
        edges.due("again, without a byte", x.land(), -20);
        edges.of(15, "-20 less the FAULT (that is refused, too: BAD)");
        edges.due("counted", x.status(12), 2);
    }

    private static void sizes() {
        edges.of(15, "A LAND is read from THE TAPE (bytes, 250 at most).");
        edges.fine("all 250", Edges::full, x -> x.land(), 1);
        edges.fine("all 250, then ANEW", Edges::full, x -> x.land() == 1 ? x.status(3) : Check.BAD, 42);
        edges.fault("a FAULT at the last of 250", RICH, "anew 1" + " ".repeat(243) + "#", 249);
        edges.fault("250 that end too early", RICH, "anew" + " ".repeat(246), 250);
        edges.fault("250 blanks", RICH, " ".repeat(250), 250);
        edges.fault("250 letters", RICH, "a".repeat(250), 0);
        edges.fault("250 ;", RICH, ";".repeat(250), 0);
        edges.fault("; as the last of 250", RICH, "anew 1" + " ".repeat(243) + ";", 250);
    }
}
