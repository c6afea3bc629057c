import java.util.function.Consumer;

/** Terms, THE TAPE: how a TOWER is read, and where its FAULT lies. */
final class TapeEdges {
    private static final String TERMS = "Terms";

    private TapeEdges() {
    }

    static void all() {
        Edge.of(TERMS, "A TOWER is read from THE TAPE (bytes, 250 at most).", TapeEdges::bytes);
        Edge.of(TERMS, "TOKENS, each as long as can be:", TapeEdges::longTokens);
        Edge.of(TERMS, "WORDS (a .. z),", TapeEdges::words);
        Edge.of(TERMS, "NUMBERS (digits),", TapeEdges::digits);
        Edge.of(TERMS, "the SIGN ;", TapeEdges::sign);
        Edge.of(TERMS, "- blanks (32) may stand anywhere between.", TapeEdges::blanks);
        Edge.of(TERMS, "STATEMENTS, one or more,", TapeEdges::oneOrMore);
        Edge.of(TERMS, "with ; between:", TapeEdges::signsBetween);
        Edge.of(TERMS, "thing W R (WORTH, its WEATHER);", TapeEdges::thing);
        Edge.of(TERMS, "hangs X Y (X on Y; Y lesser than X);", TapeEdges::hangs);
        Edge.of(TERMS, "free X (on nothing);", TapeEdges::free);
        Edge.of(TERMS, "unsaid X; said X;", TapeEdges::saidAndUnsaid);
        Edge.of(TERMS, "ringer K A B (BELL);", TapeEdges::ringer);
        Edge.of(TERMS, "weather N;", TapeEdges::weather);
        Edge.of(TERMS, "crack B; mend B;", TapeEdges::crackAndMend);
        Edge.of(TERMS, "year N (999 at most).", TapeEdges::year);
        Edge.of(TERMS, "All comes to what there is, or nothing.", TapeEdges::allOrNothing);
        Edge.of(TERMS, "The FAULT: the place of the first byte of the first TOKEN that can't stand there",
            TapeEdges::firstToken);
        Edge.of(TERMS, "(also a NUMBER that may not be,", TapeEdges::numberThatMayNotBe);
        Edge.of(TERMS, "or has more than 3 digits;", TapeEdges::threeDigits);
        Edge.of(TERMS, "what there is no room for: its word;", TapeEdges::noRoom);
        Edge.of(TERMS, "a byte that begins none);", TapeEdges::strangeBytes);
        Edge.of(TERMS, "THE TAPE's size, if it ends too early.", TapeEdges::endsTooEarly);
    }

    private static RungBackwards fed(int n) {
        RungBackwards x = new RungBackwards();
        for (int i = 0; i < n; i++) {
            x.feed(59);
        }
        return x;
    }

    private static void bytes() {
        Edge.bounds("feed(v)", Towers::rich, (x, v) -> x.feed(v), 0, 255);
        RungBackwards x = fed(248);
        Due.due("a 249th", x.feed(32), 249);
        Due.due("a 250th", x.feed(32), 250);
        Due.due("a 251st", x.feed(32), Due.FULL);
        Due.due("size", x.status(6), 250);
        Edge.taken("the 250th byte", () -> fed(249), (y, v) -> y.feed(v), 0, 255);
        Due.refused("the 251st byte", () -> fed(250), y -> y.feed(0), Due.FULL);
        Edge.reads(Towers::noThings, " ".repeat(243) + "year 7", 1);
        Edge.reads(Towers::noThings, " ".repeat(244) + "year 7", 1);
        Edge.fault(Towers::noThings, " ".repeat(245) + "year ", 250);
        Edge.fault(Towers::noThings, " ".repeat(243) + "year 7;", 250);
        Edge.fault(Towers::noThings, "year 7" + " ".repeat(243) + "8", 249);
        RungBackwards y = new RungBackwards();
        Due.due("what lies behind 250 bytes is cut", Due.read(y, " ".repeat(244) + "year 123"), 1);
        Due.due("it is 1", y.status(3), 1);
    }

    private static void longTokens() {
        RungBackwards x = new RungBackwards();
        Due.due("a NUMBER of three digits is one", Due.read(x, "year 123"), 1);
        Due.due("it is 123", x.status(3), 123);
        Due.due("a WORD ends at a NUMBER, and a NUMBER at a WORD or a SIGN", Due.read(x, "year45;crack6;thing7 1"), 3);
        Due.due("year", x.status(3), 45);
        Edge.fault(Towers::noThings, "yearcrack 1", 0);
        Edge.fault(Towers::noThings, "thing 11", 8);
        Edge.fault(Towers::noThings, "crack 1mend 1", 7);
        Edge.fault(Towers::noThings, "thing1 0thing", 8);
        Edge.fault(Towers::noThings, "crack 12345", 6);
        Edge.fault(Towers::noThings, "thin g1 1", 0);
    }

    private static void words() {
        Edge.fault(Towers::noThings, "yeara 1", 0);
        Edge.fault(Towers::noThings, "yearz 1", 0);
        Edge.fault(Towers::noThings, "ayear 1", 0);
        Edge.fault(Towers::noThings, "zyear 1", 0);
        for (char beside : "`{AZ@[_".toCharArray()) {
            Edge.fault(Towers::noThings, "year" + beside + " 1", 4);
            Edge.fault(Towers::noThings, "year " + beside, 5);
            Edge.fault(Towers::noThings, beside + "year 1", 0);
        }
        Edge.fault(Towers::noThings, "YEAR 1", 0);
        String[] all = {"thing", "hangs", "free", "unsaid", "said", "ringer", "weather", "crack", "mend", "year"};
        for (String word : all) {
            Edge.fault(Towers::twoThings, word.substring(0, word.length() - 1) + " 1 0", 0);
            Edge.fault(Towers::twoThings, word.substring(1) + " 1 0", 0);
            Edge.fault(Towers::twoThings, word + word.charAt(0) + " 1 0", 0);
            for (int i = 0; i < word.length(); i++) {
                Edge.fault(Towers::twoThings, word.substring(0, i) + 'q' + word.substring(i + 1) + " 1 0", 0);
            }
        }
    }

    private static void digits() {
        RungBackwards x = new RungBackwards();
        Due.due("all digits", Due.read(x, "year 012;year 345;year 678;year 9"), 4);
        Due.due("the last", x.status(3), 9);
        Due.due("0 and 9", Due.read(x, "year 909"), 1);
        Due.due("they are told", x.status(3), 909);
        for (char beside : "/:.,-+".toCharArray()) {
            Edge.fault(Towers::noThings, "year 1" + beside, 6);
            Edge.fault(Towers::noThings, "year " + beside + "1", 5);
        }
        Edge.fault(Towers::noThings, "year 1a", 6);
    }

    private static void sign() {
        Edge.reads(Towers::noThings, "year 1;year 2", 2);
        for (char beside : ":<,.".toCharArray()) {
            Edge.fault(Towers::noThings, "year 1" + beside + "year 2", 6);
        }
        Edge.fault(Towers::noThings, "year;1", 4);
    }

    private static void blanks() {
        Edge.reads(Towers::noThings, "year5;crack1", 2);
        Edge.reads(Towers::noThings, " year 5 ; crack 1 ", 2);
        Edge.reads(Towers::noThings, "   thing   5   3   ;   free   0  ", 2);
        Edge.reads(Towers::noThings, " ".repeat(100) + "year" + " ".repeat(100) + "5" + " ".repeat(45), 1);
        for (int other : new int[] {31, 33, 0, 9, 10, 13, 160}) {
            Edge.fault(Towers::noThings, "year" + (char) other + "5", 4);
            Edge.fault(Towers::noThings, "year 5" + (char) other, 6);
        }
        Edge.fault(Towers::noThings, "ye ar 5", 0);
        Edge.fault(Towers::noThings, "year 5 6", 7);
        RungBackwards x = new RungBackwards();
        Due.read(x, "year 5");
        Due.due("a NUMBER that a blank parts is two", Due.read(x, "thing 4 2"), 1);
        Due.due("WORTH", x.thingOf(0, 0), 4);
    }

    private static void oneOrMore() {
        Edge.fault(Towers::noThings, "", 0);
        Edge.fault(Towers::noThings, " ", 1);
        Edge.reads(Towers::noThings, "year 1", 1);
        Edge.reads(Towers::noThings, "year 1;year 2", 2);
        Edge.reads(Towers::noThings, "year 1;year 2;year 3", 3);
        Edge.reads(Towers::noThings, "mend0;".repeat(40) + "mend0", 41);
        Edge.fault(Towers::noThings, "mend0;".repeat(41), 246);
        Edge.reads(Towers::noThings, "mend0;".repeat(40) + "mend0     ", 41);
    }

    private static void signsBetween() {
        Edge.fault(Towers::noThings, ";", 0);
        Edge.fault(Towers::noThings, "; year 1", 0);
        Edge.fault(Towers::noThings, "year 1;", 7);
        Edge.fault(Towers::noThings, "year 1; ", 8);
        Edge.fault(Towers::noThings, "year 1;;year 2", 7);
        Edge.fault(Towers::noThings, "year 1; ;year 2", 8);
        Edge.fault(Towers::noThings, "year 1 year 2", 7);
        Edge.reads(Towers::noThings, "year 1 ; year 2", 2);
    }

    /** A statement comes to just what a call does. */
    private static void like(String text, Consumer<RungBackwards> call) {
        RungBackwards x = likeness();
        RungBackwards called = likeness();
        Due.due("'" + text + "'", Due.read(x, text), 1);
        call.accept(called);
        Due.same("'" + text + "' isn't like the call", Due.stateOf(x), Due.stateOf(called));
    }

    /** The steeple, and nothing told of it is 0. */
    private static RungBackwards likeness() {
        RungBackwards x = Due.steeple();
        x.tell(0, 1);
        x.tell(1, 7);
        x.tell(2, 66);
        return x;
    }

    private static void thing() {
        like("thing 3 2", x -> x.thing(3, 2));
        Edge.numbers(Towers::noThings, "thing ", " 3", 0, 99);
        Edge.numbers(Towers::noThings, "thing 99 ", "", 0, 3);
        Edge.fault(Towers::noThings, "thing", 5);
        Edge.fault(Towers::noThings, "thing 99", 8);
        Edge.fault(Towers::noThings, "thing 99;", 8);
        Edge.fault(Towers::noThings, "thing 99 3 0", 11);
        RungBackwards x = new RungBackwards();
        Due.due("two", Due.read(x, "thing 99 3;thing 0 0"), 2);
        int[] first = {99, 3, 0, 1, 0};
        for (int what = 0; what <= 4; what++) {
            Due.due("of the first " + what, x.thingOf(0, what), first[what]);
        }
        Due.due("WORTH of the second", x.thingOf(1, 0), 0);
        Due.due("WEATHER of the second", x.thingOf(1, 1), 0);
    }

    private static void hangs() {
        Edge.fault(Towers::noThings, "hangs 0 0", 6);
        Edge.fault(Towers::oneThing, "hangs 0 0", 8);
        Edge.fault(Towers::oneThing, "hangs 1 0", 6);
        Edge.reads(Towers::tenThings, "hangs 1 0", 1);
        Edge.reads(Towers::tenThings, "hangs 9 0", 1);
        Edge.fault(Towers::tenThings, "hangs 10 0", 6);
        Edge.fault(Towers::tenThings, "hangs 0 0", 8);
        Edge.numbers(Towers::tenThings, "hangs 9 ", "", 0, 8);
        Edge.numbers(Towers::tenThings, "hangs 1 ", "", 0, 0);
        Edge.fault(Towers::twoThings, "hangs", 5);
        Edge.fault(Towers::twoThings, "hangs 1", 7);
        Edge.fault(Towers::twoThings, "hangs 1;", 7);
        like("hangs 5 4", x -> x.hang(5, 4, 1));
        like("hangs 5 3", x -> x.hang(5, 3, 1));
        RungBackwards x = Towers.tenThings();
        Due.due("two", Due.read(x, "hangs 9 8;hangs 9 0;hangs 9 0"), 3);
        Due.due("it hangs on both", x.thingOf(9, 4), 257);
        Due.due("of things that are made on the way", Due.read(new RungBackwards(), "thing 0 0;thing 0 0;hangs 1 0"), 3);
    }

    /** Each text's NUMBER at a place may be one of those there are, and the next one may not. */
    private static void thingsThere(String word) {
        int place = word.length() + 1;
        Edge.fault(Towers::noThings, word + " 0", place);
        Edge.reads(Towers::oneThing, word + " 0", 1);
        Edge.fault(Towers::oneThing, word + " 1", place);
        Edge.reads(Towers::nineThings, word + " 8", 1);
        Edge.fault(Towers::nineThings, word + " 9", place);
        Edge.reads(Towers::tenThings, word + " 9", 1);
        Edge.fault(Towers::tenThings, word + " 10", place);
        Edge.fault(Towers::tenThings, word + " 999", place);
        Edge.reads(Towers::noThings, "thing 0 0;" + word + " 0", 2);
        Edge.fault(Towers::noThings, word + " 0;thing 0 0", place);
        Edge.fault(Towers::oneThing, word, place - 1);
        Edge.fault(Towers::oneThing, word + ";", place - 1);
        Edge.fault(Towers::oneThing, word + " 0 0", place + 2);
    }

    private static void free() {
        thingsThere("free");
        like("free 3", x -> x.free(3));
        like("free 0", x -> x.free(0));
        RungBackwards x = Towers.thicket();
        Due.due("it is read", Due.read(x, "free 9;free 0"), 2);
        Due.due("9 hangs on nothing", x.thingOf(9, 4), 0);
        Due.due("8 hangs as it did", x.thingOf(8, 4), 255);
    }

    private static void saidAndUnsaid() {
        thingsThere("unsaid");
        thingsThere("said");
        like("unsaid 3", x -> x.give(3, 3, 0));
        like("unsaid 4", x -> x.give(4, 3, 0));
        like("said 3", x -> x.give(3, 3, 1));
        like("said 4", x -> x.give(4, 3, 1));
        RungBackwards x = Towers.tenThings();
        Due.due("unsaid", Due.read(x, "unsaid 9;unsaid 0;unsaid 0"), 3);
        Due.due("BEEN", x.all(2), 510);
        Due.due("said", Due.read(x, "said 9;said 9;said 1"), 3);
        Due.due("BEEN", x.all(2), 1022);
    }

    private static void ringer() {
        Edge.numbers(Towers::noThings, "ringer ", " 9 7", 0, 5);
        Edge.numbers(Towers::noThings, "ringer 5 ", " 7", 0, 9);
        Edge.numbers(Towers::noThings, "ringer 5 9 ", "", 0, 7);
        Edge.fault(Towers::noThings, "ringer", 6);
        Edge.fault(Towers::noThings, "ringer 5", 8);
        Edge.fault(Towers::noThings, "ringer 5 9", 10);
        Edge.fault(Towers::noThings, "ringer 5 9;", 10);
        Edge.fault(Towers::noThings, "ringer 5 9 7 0", 13);
        like("ringer 3 4 5", x -> x.ringer(3, 4, 5));
        RungBackwards x = new RungBackwards();
        Due.due("two", Due.read(x, "ringer 5 9 7;ringer 0 0 0"), 2);
        int[] first = {5, 9, 7, 19};
        int[] second = {0, 0, 0, 10};
        for (int what = 0; what <= 3; what++) {
            Due.due("of the first " + what, x.ringerOf(0, what), first[what]);
            Due.due("of the second " + what, x.ringerOf(1, what), second[what]);
        }
    }

    private static void weather() {
        Edge.numbers(Towers::noThings, "weather ", "", 0, 3);
        Edge.fault(Towers::noThings, "weather", 7);
        Edge.fault(Towers::noThings, "weather 3 3", 10);
        like("weather 2", x -> x.tell(0, 2));
        RungBackwards x = new RungBackwards();
        Due.read(x, "weather 3");
        Due.due("it is 3", x.status(2), 3);
        Due.read(x, "weather 1;weather 0");
        Due.due("the last counts", x.status(2), 0);
    }

    private static void crackAndMend() {
        Edge.numbers(Towers::noThings, "crack ", "", 0, 7);
        Edge.numbers(Towers::noThings, "mend ", "", 0, 7);
        Edge.fault(Towers::noThings, "crack", 5);
        Edge.fault(Towers::noThings, "mend", 4);
        Edge.fault(Towers::noThings, "crack 1 1", 8);
        Edge.fault(Towers::noThings, "mend 1 1", 7);
        like("crack 0", x -> x.tell(2, 67));
        like("crack 1", x -> x.tell(2, 66));
        like("mend 6", x -> x.tell(2, 2));
        like("mend 5", x -> x.tell(2, 66));
        RungBackwards x = new RungBackwards();
        Due.read(x, "crack 0;crack 7;crack 7");
        Due.due("0 and 7", x.status(4), 129);
        Due.read(x, "mend 0;mend 0;mend 3");
        Due.due("7", x.status(4), 128);
        Due.read(x, "mend 7;crack 3");
        Due.due("3", x.status(4), 8);
    }

    private static void year() {
        Edge.reads(Towers::noThings, "year 0", 1);
        Edge.reads(Towers::noThings, "year 999", 1);
        Edge.fault(Towers::noThings, "year 1000", 5);
        Edge.fault(Towers::noThings, "year", 4);
        Edge.fault(Towers::noThings, "year 1 1", 7);
        like("year 5", x -> x.tell(1, 5));
        RungBackwards x = new RungBackwards();
        Due.read(x, "year 999");
        Due.due("it is 999", x.status(3), 999);
        Due.read(x, "year 0");
        Due.due("it is 0", x.status(3), 0);
    }

    private static void allOrNothing() {
        RungBackwards x = Due.steeple();
        Due.due("it comes to what there is", Due.read(x, "thing 1 1;hangs 6 5;ringer 3 3 3;unsaid 0;crack 2"), 5);
        Due.due("THINGS", x.status(0), 7);
        Due.due("the new one hangs on one of before", x.thingOf(6, 4), 32);
        Due.due("what was hangs as it did", x.thingOf(3, 4), 6);
        Due.due("RINGERS", x.status(1), 5);
        Due.due("BEEN", x.all(2), 110);
        String all = "thing 1 1;hangs 5 0;free 3;unsaid 0;said 4;ringer 0 0 0;weather 3;crack 2;mend 2;crack 3;year 9";
        Edge.reads(Due::steeple, all, 11);
        Edge.fault(Due::steeple, all + ";", all.length() + 1);
        Edge.fault(Due::steeple, all + ";year", all.length() + 5);
        Edge.fault(Due::steeple, all + ";free 9", all.length() + 6);
        Edge.fault(Due::steeple, all + "!", all.length());
    }

    private static void firstToken() {
        Edge.fault(Towers::noThings, "  years 1", 2);
        Edge.fault(Towers::noThings, "year  year", 6);
        Edge.fault(Towers::noThings, "year  ;", 6);
        Edge.fault(Towers::noThings, "12", 0);
        Edge.fault(Towers::noThings, "year 1  thing", 8);
        Edge.fault(Towers::noThings, "year 1  22", 8);
        Edge.fault(Towers::noThings, "year 1;  22", 9);
        Edge.fault(Towers::noThings, "year 1;  years", 9);
        Edge.fault(Towers::noThings, "thing 100 4", 6);
        Edge.fault(Towers::noThings, "thing 1 4;years", 8);
        Edge.fault(Towers::twoThings, "hangs 2 2", 6);
    }

    private static void numberThatMayNotBe() {
        Edge.fault(Towers::noThings, "thing 100 0", 6);
        Edge.fault(Towers::noThings, "thing  99  4", 11);
        Edge.fault(Towers::noThings, "weather 4", 8);
        Edge.fault(Towers::noThings, "crack 8", 6);
        Edge.fault(Towers::twoThings, "hangs 1 1", 8);
        Edge.fault(Towers::twoThings, "said 2", 5);
        Edge.fault(Towers::noThings, "ringer 5 10 8", 9);
    }

    private static void threeDigits() {
        Edge.reads(Towers::noThings, "weather 3", 1);
        Edge.reads(Towers::noThings, "weather 03", 1);
        Edge.reads(Towers::noThings, "weather 003", 1);
        Edge.fault(Towers::noThings, "weather 0003", 8);
        Edge.fault(Towers::noThings, "year 0999", 5);
        Edge.fault(Towers::noThings, "year 0000", 5);
        Edge.reads(Towers::noThings, "year 000", 1);
        Edge.reads(Towers::noThings, "thing 099 003", 1);
        Edge.fault(Towers::noThings, "thing 0099 3", 6);
        Edge.fault(Towers::noThings, "thing 99 0003", 9);
        Edge.fault(Towers::noThings, "year 4294967296", 5);
        Edge.fault(Towers::noThings, "year 18446744073709551617", 5);
        Edge.fault(Towers::noThings, "year " + "0".repeat(245), 5);
    }

    private static void noRoom() {
        Edge.fault(Towers::tenThings, "thing 1 1", 0);
        Edge.fault(Towers::tenThings, "year 1; thing 1 1", 8);
        Edge.fault(Towers::tenThings, "thing 100 1", 0);
        Edge.fault(Towers::tenThings, "thing", 0);
        Edge.reads(Towers::nineThings, "thing 1 1", 1);
        Edge.fault(Towers::nineThings, "thing 1 1;thing 1 1", 10);
        Edge.fault(Towers::sixRingers, "ringer 1 1 1", 0);
        Edge.fault(Towers::sixRingers, " ringer", 1);
        Edge.reads(() -> Towers.ringers(5), "ringer 1 1 1", 1);
        Edge.fault(() -> Towers.ringers(5), "ringer 1 1 1;ringer 1 1 1", 13);
        Edge.reads(Towers::tenThings, "ringer 1 1 1", 1);
        Edge.reads(Towers::sixRingers, "thing 1 1", 1);
        Edge.reads(Towers::noThings, "thing0 0;".repeat(9) + "thing0 0", 10);
        Edge.fault(Towers::noThings, "thing0 0;".repeat(10) + "thing0 0", 90);
    }

    private static void strangeBytes() {
        for (int b = 0; b <= 255; b++) {
            boolean begins = b >= 'a' && b <= 'z' || b >= '0' && b <= '9' || b == ';' || b == ' ';
            if (!begins) {
                RungBackwards x = new RungBackwards();
                Due.due("byte " + b, Due.read(x, "year 1" + (char) b), -26);
            }
        }
        for (int b : new int[] {0, 31, 33, 58, 96, 123, 127, 128, 255}) {
            Edge.fault(Towers::noThings, (char) b + "year 1", 0);
            Edge.fault(Towers::noThings, "year " + (char) b + " 1", 5);
            Edge.fault(Towers::noThings, "year 1 ; " + (char) b, 9);
        }
    }

    private static void endsTooEarly() {
        Edge.fault(Towers::noThings, "", 0);
        Edge.fault(Towers::noThings, "     ", 5);
        Edge.fault(Towers::noThings, " ".repeat(250), 250);
        Edge.fault(Towers::noThings, "year", 4);
        Edge.fault(Towers::noThings, "year   ", 7);
        Edge.fault(Towers::noThings, "thing 1", 7);
        Edge.fault(Towers::noThings, "ringer 1 1  ", 12);
        Edge.fault(Towers::noThings, "year 1;", 7);
        Edge.fault(Towers::noThings, "year 1;  ", 9);
        Edge.reads(Towers::noThings, "year 1  ", 1);
    }
}
