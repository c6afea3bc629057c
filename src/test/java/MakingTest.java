/** Promises 9 to 18: things, ringers, what is told, the tape, towers read from it. */
public final class MakingTest {
    public static void main(String[] args) {
        thing();
        ringer();
        hang();
        give();
        tell();
        feedAndWipe();
        towerRead();
        towerFaults();
        towerRoom();
        thingOf();
        ringerOf();
        Due.end();
    }

    private static RungBackwards fullTower() {
        RungBackwards x = new RungBackwards();
        for (int i = 0; i < 10; i++) {
            x.thing(i, i % 4);
        }
        for (int i = 0; i < 6; i++) {
            x.ringer(i, i, i);
        }
        return x;
    }

    private static void thing() {
        RungBackwards x = new RungBackwards();
        for (int i = 0; i < 10; i++) {
            Due.due("thing", x.thing(i == 9 ? 99 : i, i % 4), i);
        }
        int[] due = {99, 1, 0, 1, 0, 1, 1, 0};
        for (int what = 0; what <= 7; what++) {
            Due.due("new thing " + what, x.thingOf(9, what), due[what]);
        }
        Due.refused("an 11th", MakingTest::fullTower, y -> y.thing(0, 0), Due.FULL);
        Due.refused("BAD ahead of FULL", MakingTest::fullTower, y -> y.thing(100, 0), Due.BAD);
        Due.refused("worth -1", Due::steeple, y -> y.thing(-1, 0), Due.BAD);
        Due.refused("worth 100", Due::steeple, y -> y.thing(100, 0), Due.BAD);
        Due.refused("weather -1", Due::steeple, y -> y.thing(0, -1), Due.BAD);
        Due.refused("weather 4", Due::steeple, y -> y.thing(0, 4), Due.BAD);
    }

    private static void ringer() {
        RungBackwards x = new RungBackwards();
        for (int i = 0; i < 6; i++) {
            Due.due("ringer", x.ringer(5 - i, 9 - i, 7 - i), i);
        }
        Due.due("kind", x.ringerOf(1, 0), 4);
        Due.due("a", x.ringerOf(1, 1), 8);
        Due.due("bell", x.ringerOf(1, 2), 6);
        Due.refused("a 7th", MakingTest::fullTower, y -> y.ringer(0, 0, 0), Due.FULL);
        Due.refused("BAD ahead of FULL", MakingTest::fullTower, y -> y.ringer(0, 0, 8), Due.BAD);
        int[][] bad = {{-1, 0, 0}, {6, 0, 0}, {0, -1, 0}, {0, 10, 0}, {0, 0, -1}, {0, 0, 8}};
        for (int[] b : bad) {
            Due.refused("ringer", Due::steeple, y -> y.ringer(b[0], b[1], b[2]), Due.BAD);
        }
    }

    private static void hang() {
        RungBackwards x = Due.steeple();
        Due.due("hang anew", x.hang(5, 0, 1), 0);
        Due.due("it hangs", x.thingOf(5, 4), 9);
        Due.due("hang again", x.hang(5, 0, 1), 1);
        Due.due("off it", x.hang(5, 3, 0), 1);
        Due.due("off it again", x.hang(5, 3, 0), 0);
        Due.due("what is left", x.thingOf(5, 4), 1);
        int[][] bad = {{6, 0, 1}, {-1, 0, 1}, {3, 3, 1}, {3, 4, 0}, {3, -1, 1}, {3, 1, 2}, {3, 1, -1}, {0, 0, 0}};
        for (int[] b : bad) {
            Due.refused("hang", Due::steeple, y -> y.hang(b[0], b[1], b[2]), Due.BAD);
        }
    }

    private static void give() {
        RungBackwards x = Due.steeple();
        int[] ahead = {30, 1, 0, 1};
        int[] most = {99, 3, 99, 1};
        for (int what = 0; what <= 3; what++) {
            Due.due("give most of " + what, x.give(1, what, most[what]), ahead[what]);
            Due.due("it is", x.thingOf(1, what), most[what]);
            Due.due("give 0 of " + what, x.give(1, what, 0), most[what]);
            Due.due("it is", x.thingOf(1, what), 0);
            int kind = what;
            Due.refused("give too much", Due::steeple, y -> y.give(1, kind, most[kind] + 1), Due.BAD);
            Due.refused("give too little", Due::steeple, y -> y.give(1, kind, -1), Due.BAD);
        }
        Due.due("another is left", x.thingOf(0, 0), 20);
        Due.refused("give thing 6", Due::steeple, y -> y.give(6, 0, 0), Due.BAD);
        Due.refused("give thing -1", Due::steeple, y -> y.give(-1, 0, 0), Due.BAD);
        Due.refused("give what 4", Due::steeple, y -> y.give(0, 4, 0), Due.BAD);
        Due.refused("give what -1", Due::steeple, y -> y.give(0, -1, 0), Due.BAD);
    }

    private static void tell() {
        RungBackwards x = new RungBackwards();
        int[] most = {3, 999, 255};
        for (int what = 0; what <= 2; what++) {
            Due.due("tell most of " + what, x.tell(what, most[what]), 0);
            Due.due("it is", x.status(2 + what), most[what]);
            Due.due("tell 1 of " + what, x.tell(what, 1), most[what]);
            int kind = what;
            Due.refused("tell too much", Due::steeple, y -> y.tell(kind, most[kind] + 1), Due.BAD);
            Due.refused("tell too little", Due::steeple, y -> y.tell(kind, -1), Due.BAD);
        }
        Due.refused("tell what 3", Due::steeple, y -> y.tell(3, 0), Due.BAD);
        Due.refused("tell what -1", Due::steeple, y -> y.tell(-1, 0), Due.BAD);
    }

    private static void feedAndWipe() {
        RungBackwards x = new RungBackwards();
        Due.due("wipe nothing", x.wipe(), 0);
        for (int i = 1; i <= 250; i++) {
            Due.due("feed", x.feed(i % 256), i);
        }
        Due.due("feed a 251st", x.feed(0), Due.FULL);
        Due.due("feed BAD ahead of FULL", x.feed(256), Due.BAD);
        Due.due("size", x.status(6), 250);
        Due.due("wipe", x.wipe(), 250);
        Due.due("wipe again", x.wipe(), 0);
        Due.due("size", x.status(6), 0);
        Due.due("feed 0", x.feed(0), 1);
        Due.due("feed 255", x.feed(255), 2);
        Due.refused("feed -1", Due::steeple, y -> y.feed(-1), Due.BAD);
        Due.refused("feed 256", Due::steeple, y -> y.feed(256), Due.BAD);
        x.wipe();
        Due.feed(x, "thing 1 1;");
        x.wipe();
        Due.due("what is wiped is not read", Due.read(x, "thing 2 2"), 1);
        Due.due("one thing", x.status(0), 1);
    }

    private static void towerRead() {
        RungBackwards x = new RungBackwards();
        Due.due("all statements", Due.read(x, "thing 99 3;thing 007 0;thing 5 1;hangs 1 0;hangs 2 1;hangs 2 0;free 1;"
            + "unsaid 0;unsaid 2;said 2;ringer 5 9 7;ringer 0 0 0;weather 3;crack 7;crack 0;mend 7;mend 2;year 999"), 18);
        Due.due("tape is empty", x.status(6), 0);
        int[] status = {3, 2, 3, 999, 1, 7};
        for (int i = 0; i < status.length; i++) {
            Due.due("status " + i, x.status(i), status[i]);
        }
        Due.due("free", x.thingOf(1, 4), 0);
        Due.due("hangs", x.thingOf(2, 4), 3);
        Due.due("unsaid", x.thingOf(0, 3), 0);
        Due.due("said", x.thingOf(2, 3), 1);
        Due.due("kind", x.ringerOf(0, 0), 5);
        Due.due("a", x.ringerOf(0, 1), 9);
        Due.due("bell", x.ringerOf(0, 2), 7);
        Due.due("what comes, comes to what there is", Due.read(x, "hangs 1 0;thing 1 0;hangs 3 2"), 3);
        Due.due("hangs", x.thingOf(3, 4), 4);
        Due.due("no blanks between words and numbers", Due.read(x, "thing10 2;free3"), 2);
        Due.due("worth", x.thingOf(4, 0), 10);
        Due.due("blanks", Due.read(x, "   year  3  ;  weather   1   "), 2);
        Due.due("year", x.status(3), 3);
        Due.due("no refusals", x.status(12), 0);
        Due.due("said is not rung", x.thingOf(2, 1), 1);
    }

    /** Each text on a new tower of two things and a ringer, the place of its fault behind it. */
    private static final Object[][] FAULTS = {
        {"", 0}, {"   ", 3}, {";", 0}, {"  ;", 2}, {"thing 1 1;", 10}, {"thing 1 1 ; ", 12}, {"thing 1 1;;", 10},
        {"thing", 5}, {"thing ", 6}, {"thing 1", 7}, {"thing 1 ", 8}, {"thing 100 1", 6}, {"thing 99 4", 9},
        {"thing 1 1 1", 10}, {"thing 1 1 thing 1 1", 10}, {"thing ; 1", 6}, {"thing a 1", 6}, {"thing 0099 1", 6},
        {"things 1 1", 0}, {"thin 1 1", 0}, {"Thing 1 1", 0}, {"thinG 1 1", 0}, {"hangs 1 1", 8}, {"hangs 2 0", 6},
        {"hangs 0 0", 8}, {"hangs 0", 7}, {"hangs 1", 7}, {"hangs 1;", 7}, {"free 2", 5}, {"free", 4}, {"free 1 1", 7},
        {"unsaid 2", 7}, {"said 2", 5}, {"said x", 5}, {"ringer 6 0 0", 7}, {"ringer 5 10 0", 9}, {"ringer 5 9 8", 11},
        {"ringer 5 9", 10}, {"ringer 5 9;", 10}, {"weather 4", 8}, {"crack 8", 6}, {"mend 8", 5}, {"year 1000", 5},
        {"year 0000", 5}, {"year 999 9", 9}, {"year 9,", 6}, {"year 9\t", 6}, {"12", 0}, {"year 9; 3", 8},
        {"thing 5 0;hangs 2 1;free 3", 25}, {"year 5" + (char) 233, 6}, {"year" + (char) 0 + "5", 4},
        {"weatherx 1", 0}, {"yearz 1", 0}, {"azure 1", 0}, {"{ear 1", 0}, {"`", 0}, {"year :", 5}, {"year /", 5}, {"year - 1", 5}, {"yearyear 1", 0}, {"crack 12345678901234567890", 6}
    };

    private static RungBackwards small() {
        return Due.towerOf("thing 1 1;thing 2 2;ringer 0 0 0");
    }

    private static void towerFaults() {
        for (Object[] fault : FAULTS) {
            String text = (String) fault[0];
            int place = (Integer) fault[1];
            RungBackwards x = small();
            String before = Due.stateOf(x);
            Due.due("'" + text + "'", Due.read(x, text), -20 - place);
            Due.due("'" + text + "' is BAD", x.status(12), 1);
            Due.due("'" + text + "' changes nothing", Due.stateOf(x).equals(before) ? 0 : 1, 0);
        }
        RungBackwards x = small();
        Due.due("nothing of a spoilt tape comes", Due.read(x, "year 5;crack 3;thing 1 1;ringer 0 0 0;hangs 2 2"), -66);
        Due.due("year", x.status(3), 0);
        Due.due("cracked", x.status(4), 0);
        Due.due("things", x.status(0), 2);
        Due.due("ringers", x.status(1), 1);
        Due.due("the tape is empty behind a fault", x.status(6), 0);
        Due.due("read on", Due.read(x, "year 5"), 1);
    }

    private static void towerRoom() {
        RungBackwards x = fullTower();
        Due.due("no room for a thing", Due.read(x, "year 1; thing 0 0"), -28);
        Due.due("its word comes ahead of its numbers", Due.read(x, "thing 100 0"), -20);
        Due.due("its word comes ahead of the end", Due.read(x, "thing"), -20);
        Due.due("no room for a ringer", Due.read(x, " ringer 0 0 0"), -21);
        Due.due("year as it was", x.status(3), 0);
        RungBackwards y = Due.towerOf("thing 0 0;thing 0 0;thing 0 0;thing 0 0;thing 0 0;thing 0 0;thing 0 0;thing 0 0;"
            + "thing 0 0");
        Due.due("room for one alone", Due.read(y, "thing 0 0;thing 0 0"), -30);
        Due.due("nine", y.status(0), 9);
        Due.due("room for one", Due.read(y, "thing 0 0"), 1);
        Due.due("ten", y.status(0), 10);
        StringBuilder text = new StringBuilder("year 7");
        while (text.length() < 250) {
            text.append(' ');
        }
        Due.due("a tape of 250", Due.read(new RungBackwards(), text.toString()), 1);
        text.setCharAt(249, ';');
        Due.due("a tape of 250 that ends too early", Due.read(new RungBackwards(), text.toString()), -270);
        RungBackwards z = new RungBackwards();
        Due.due("a 36th that ends too early", Due.read(z, "year 1;".repeat(34) + "mend 2;free"), -20 - 249);
        Due.due("35 statements", Due.read(z, "year 1;".repeat(34) + "mend 2"), 35);
    }

    private static void thingOf() {
        RungBackwards x = Due.steeple();
        int[] due = {55, 2, 0, 1, 6, 1, 1, 0};
        for (int what = 0; what <= 7; what++) {
            Due.due("thing 3, " + what, x.thingOf(3, what), due[what]);
        }
        Due.due("may be rung back", x.thingOf(2, 7), 1);
        Due.due("may be rung forwards", x.thingOf(4, 7), 2);
        Due.due("has not been", x.thingOf(4, 3), 0);
        Due.due("doesn't stand", x.thingOf(4, 5), 0);
        x.give(0, 3, 0);
        Due.due("what hangs on it stands no more", x.thingOf(3, 5), 0);
        Due.due("though it has been", x.thingOf(3, 3), 1);
        x.tell(2, 16);
        Due.due("shut", x.thingOf(4, 6), 0);
        Due.due("shut, it may not", x.thingOf(4, 7), 0);
        RungBackwards full = fullTower();
        full.tell(2, 1);
        Due.due("8 is on bell 0", full.thingOf(8, 6), 0);
        Due.due("9 is on bell 1", full.thingOf(9, 6), 1);
        Due.refused("thing 6", Due::steeple, y -> y.thingOf(6, 0), Due.BAD);
        Due.refused("thing -1", Due::steeple, y -> y.thingOf(-1, 0), Due.BAD);
        Due.refused("what 8", Due::steeple, y -> y.thingOf(0, 8), Due.BAD);
        Due.refused("what -1", Due::steeple, y -> y.thingOf(0, -1), Due.BAD);
    }

    private static void ringerOf() {
        int[][] slips = {{10, 13, 19}, {30, 39, 57}, {10, 10, 10}, {15, 20, 29}, {5, 5, 5}, {10, 13, 19}};
        int[] as = {0, 3, 9};
        for (int kind = 0; kind < 6; kind++) {
            for (int i = 0; i < 3; i++) {
                RungBackwards x = new RungBackwards();
                x.ringer(kind, as[i], 7);
                Due.due("slip of " + kind + " " + as[i], x.ringerOf(0, 3), slips[kind][i]);
                x.tell(2, 128);
                Due.due("cracked " + kind + " " + as[i], x.ringerOf(0, 3), kind == 5 ? 50 : slips[kind][i]);
                x.tell(2, 127);
                Due.due("others cracked", x.ringerOf(0, 3), slips[kind][i]);
            }
        }
        RungBackwards x = Due.steeple();
        int[] due = {1, 4, 1, 42};
        for (int what = 0; what <= 3; what++) {
            Due.due("ringer 1, " + what, x.ringerOf(1, what), due[what]);
        }
        Due.refused("ringer 4", Due::steeple, y -> y.ringerOf(4, 0), Due.BAD);
        Due.refused("ringer -1", Due::steeple, y -> y.ringerOf(-1, 0), Due.BAD);
        Due.refused("what 4", Due::steeple, y -> y.ringerOf(0, 4), Due.BAD);
        Due.refused("what -1", Due::steeple, y -> y.ringerOf(0, -1), Due.BAD);
    }
}
