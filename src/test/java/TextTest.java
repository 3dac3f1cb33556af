/** Promises 1 to 4: a new object, the tape, the kitchen's text and its faults. */
public final class TextTest {
    private static final Check CHECK = new Check("TextTest");
    private static final int NONE = Check.NONE;

    public static void main(String[] args) {
        newObject();
        feed();
        bytesComeHighestFirst();
        kitchen();
        kitchenAllAnew();
        faultLeavesAll();
        lines();
        numbers();
        tooMany();
        expressions();
        depth();
        nots();
        firstFaultCounts();
        CHECK.end();
    }

    private static void newObject() {
        KettleChoir choir = new KettleChoir();
        for (int what = 0; what <= 14; what++) {
            CHECK.same("count(" + what + ") of a new one", choir.count(what), 0);
        }
        CHECK.missing("kettle 0 of a new one", () -> choir.kettle(0, 0));
        CHECK.missing("stove 0 of a new one", () -> choir.stove(0, 0));
        CHECK.missing("dish 0 of a new one", () -> choir.dish(0, -1));
        CHECK.same("fault() of a new one", choir.fault(), NONE);
        CHECK.same("undo() of a new one", choir.undo(), NONE);
        CHECK.same("restore() of a new one", choir.restore(), false);
        CHECK.same("chalk(2) of a new one", choir.chalk(2), 1);
        CHECK.same("minutes(30) of a new one", choir.minutes(30), 30);
        CHECK.same("NONE", KettleChoir.NONE, -1);
    }

    private static void feed() {
        KettleChoir choir = new KettleChoir();
        for (int i = 1; i <= 30; i++) {
            CHECK.same("feed " + i, choir.feed(i, -i, Integer.MIN_VALUE, Integer.MAX_VALUE, 0), 20 * i);
            CHECK.same("the tape behind feed " + i, choir.count(11), 20 * i);
        }
        CHECK.same("feed above 600", choir.feed(1, 1, 1, 1, 1), NONE);
        CHECK.same("the tape then", choir.count(11), 600);
        CHECK.same("no status", choir.count(12) + choir.count(13) + choir.count(14), 0);
        KettleChoir full = new KettleChoir();
        String text = "stove 7;" + " ".repeat(584) + "stove 8;";
        CHECK.same("a text of 600 bytes", Check.read(full, text), 0);
        CHECK.same("its stove 1", full.stove(1, 0), 8);
        CHECK.same("feed behind it", full.feed(0, 0, 0, 0, 0), 20);
    }

    private static void bytesComeHighestFirst() {
        KettleChoir choir = new KettleChoir();
        // "stov" "e 12" ";sto" "ve 3" "4;  "
        choir.feed(0x73746f76, 0x65203132, 0x3b73746f, 0x76652033, 0x343b2020);
        CHECK.same("kitchen(18)", choir.kitchen(18), 0);
        CHECK.same("stove 0", choir.stove(0, 0), 12);
        CHECK.same("stove 1", choir.stove(1, 0), 34);
        CHECK.same("stoves", choir.count(1), 2);
    }

    private static void kitchen() {
        KettleChoir choir = new KettleChoir();
        CHECK.illegal("kitchen(1) without a tape", () -> choir.kitchen(1));
        CHECK.same("kitchen(0) without a tape", choir.kitchen(0), 0);
        Check.tape(choir, "stove 5; what is this");
        CHECK.illegal("kitchen(-1)", () -> choir.kitchen(-1));
        CHECK.illegal("kitchen(41)", () -> choir.kitchen(41));
        CHECK.illegal("kitchen(MAX)", () -> choir.kitchen(Integer.MAX_VALUE));
        CHECK.illegal("kitchen(MIN)", () -> choir.kitchen(Integer.MIN_VALUE));
        CHECK.same("the tape stays", choir.count(11), 40);
        CHECK.same("status 0 stays", choir.count(12), 0);
        CHECK.same("kitchen(8)", choir.kitchen(8), 0);
        CHECK.same("the tape is empty then", choir.count(11), 0);
        CHECK.same("its stove", choir.stove(0, 0), 5);
        Check.tape(choir, "stove;");
        CHECK.same("a fault", choir.kitchen(6), 1);
        CHECK.same("its place", choir.fault(), 5);
        CHECK.same("the tape is empty then, too", choir.count(11), 0);
        CHECK.illegal("kitchen(1) then", () -> choir.kitchen(1));
        CHECK.same("fault() stays", choir.fault(), 5);
        CHECK.same("kitchen(0)", choir.kitchen(0), 0);
        CHECK.same("fault() is none then", choir.fault(), NONE);
        CHECK.same("stoves then", choir.count(1), 0);
    }

    private static void kitchenAllAnew() {
        KettleChoir choir = CHECK.choir("tin 5 20 5 0;stove 40;dish 3;lifts heat;");
        choir.put(0, 0);
        choir.lift(0);
        choir.lift(0);
        choir.put(0, 0);
        choir.minutes(9);
        choir.hear(4, 5);
        choir.hear(0, 5);
        Check.read(choir, "x");
        choir.image();
        CHECK.same("the next kitchen", Check.read(choir, "iron 3 9 2 1;stove 40;"), 0);
        int[] due = {1, 1, 0, 0, 0, 0, 0, 0, 0, 0, 0, 0, 1, 1, 1};
        for (int what = 0; what < due.length; what++) {
            CHECK.same("count(" + what + ") of the next kitchen", choir.count(what), due[what]);
        }
        int[] kettle = {2, 3, 9, 2, 1, 0, NONE, 0, NONE};
        for (int what = 0; what < kettle.length; what++) {
            CHECK.same("kettle(0, " + what + ") of the next kitchen", choir.kettle(0, what), kettle[what]);
        }
        CHECK.same("undo() then", choir.undo(), NONE);
        CHECK.same("the image is gone", choir.restore(), false);
        choir.put(0, 0);
        choir.minutes(1);
        CHECK.same("the rule is gone", choir.kettle(0, 6), 0);
    }

    private static void faultLeavesAll() {
        KettleChoir choir = CHECK.choir("tin 5 20 5 3;stove 40;dish 3 4;lifts 2<sung;");
        choir.put(0, 0);
        choir.minutes(2);
        choir.hear(4, 5);
        choir.image();
        CHECK.same("a fault", Check.read(choir, "iron 3 9 2 1;stove 2;dish 1 1;"), 4);
        CHECK.same("its place", choir.fault(), 28);
        int[] due = {1, 1, 1, 2, 0, 0, 0, 0, 0, 2, 1, 0, 1, 0, 0};
        for (int what = 0; what < due.length; what++) {
            CHECK.same("count(" + what + ") behind a fault", choir.count(what), due[what]);
        }
        CHECK.same("the kind stays", choir.kettle(0, 0), 0);
        CHECK.same("the power stays", choir.stove(0, 0), 40);
        CHECK.same("the step stays", choir.dish(0, 1), 4);
        CHECK.same("the heat stays", choir.kettle(0, 5), 80);
        choir.minutes(4);
        CHECK.same("the rule stays", choir.kettle(0, 6), NONE);
        CHECK.same("it sang to 3", choir.kettle(0, 7), 4);
        CHECK.same("the image stays", choir.restore(), true);
    }

    private static void lines() {
        fault("", 0, NONE);
        fault(" \n \n", 0, NONE);
        fault("tin 1 1 0 0;copper24 40 40 9;iron 1 2 3 4;", 2, 38);
        fault("tin 1 1 0 0;copper24 40 40 9;iron\n1\n2 1 4 ; enamel 5 5 5 5;", 0, NONE);
        fault("tin;", 1, 3);
        fault("tin 1 1 1 1", 1, 11);
        fault("tin 1 1 1 1  ", 1, 13);
        fault("tin 1 1 1 ;", 1, 10);
        fault("tin 1 1 1 1 1;", 1, 12);
        fault("tin 1 1 1 1;;", 1, 12);
        fault("tins 1 1 1 1;", 1, 0);
        fault("ti n 1 1 1 1;", 1, 0);
        fault("Tin 1 1 1 1;", 1, 0);
        fault("\ttin 1 1 1 1;", 1, 0);
        fault("tin\r1 1 1 1;", 1, 3);
        fault("tin 1 1 1 1" + (char) 233 + ";", 1, 11);
        fault("tin 1 1 1 1" + (char) 0 + ";", 1, 11);
        fault("tin -1 1 1 1;", 1, 4);
        fault("5;", 1, 0);
        fault("note;", 1, 0);
        fault("stove;", 1, 5);
        fault("stove tin;", 1, 6);
        fault("stove 5 5;", 1, 8);
        fault("dish;", 1, 4);
        fault("dish ", 1, 5);
        fault("dish 3", 1, 6);
        fault("dish x;", 1, 5);
        fault("dish 3 x;", 1, 7);
        fault("dish 3 4 5;stove 1;", 0, NONE);
        fault("lifts;", 1, 5);
        fault("lifts 1", 1, 7);
        fault("lifts 1;lifts 2;", 5, 8);
        fault("lifts 1;stove 3;lifts", 5, 16);
    }

    private static void numbers() {
        fault("tin 0 9 0 0;", 2, 4);
        fault("tin 25 9 0 0;", 2, 4);
        fault("tin 24 0 0 0;", 2, 7);
        fault("tin 24 41 0 0;", 2, 7);
        fault("tin 24 40 41 0;", 2, 10);
        fault("tin 24 9 10 0;", 2, 9);
        fault("tin 24 9 9 10;", 2, 11);
        fault("tin 0024 0009 009 09;", 0, NONE);
        fault("tin 00024 9 9 9;", 2, 4);
        fault("tin 4294967297 9 9 9;", 2, 4);
        fault("tin 10000 9 9 9;", 2, 4);
        fault("stove 0;", 2, 6);
        fault("stove 41;", 2, 6);
        fault("stove 40;stove 1;", 0, NONE);
        fault("dish 0;", 2, 5);
        fault("dish 25;", 2, 5);
        fault("dish 24;dish 1;", 0, NONE);
        fault("dish 00012;", 2, 5);
        fault("dish 12 00012;", 2, 8);
        fault("dish 12 13 12;", 4, 11);
        fault("dish 12 0012;", 4, 8);
        fault("dish 12 13 14 12;", 2, 14);
        fault("dish 12 13 14 99;", 2, 14);
        fault("dish 12 13 14 x;", 1, 14);
        fault("12345;", 1, 0);
        fault("stove 5 12345;", 1, 8);
    }

    private static void tooMany() {
        String kettles = "tin 1 1 0 0;".repeat(4) + "iron 1 1 0 0;".repeat(2) + "enamel 1 1 0 0;copper 1 1 0 0;";
        fault(kettles, 0, NONE);
        fault(kettles + "tin 1 1 0 0;", 2, kettles.length());
        fault(kettles + "\n copper", 2, kettles.length() + 2);
        fault("stove 1;".repeat(4), 0, NONE);
        fault("stove 1;".repeat(5), 2, 32);
        fault("stove 1;".repeat(4) + "stove x", 2, 32);
        fault("dish 1;".repeat(5), 0, NONE);
        fault("dish 1;".repeat(6), 2, 35);
        fault(kettles + "stove 1;".repeat(4) + "dish 1 2 3;".repeat(5) + "lifts 0;", 0, NONE);
    }

    private static void expressions() {
        fault("lifts 1+2*3-4/5<6=7;", 1, 17);
        fault("lifts 1+2*3-4/5<6 and 7=8 or not 9;", 0, NONE);
        fault("lifts note+sung+third+heat+fill+chalk+singers;", 0, NONE);
        fault("lifts notes;", 3, 6);
        fault("lifts 1 note;", 1, 8);
        fault("lifts 1 2;", 1, 8);
        fault("lifts 1 not 2;", 1, 8);
        fault("lifts 1 + not 2;", 3, 10);
        fault("lifts 1 < not 2;", 3, 10);
        fault("lifts 1 and not 2;", 0, NONE);
        fault("lifts and;", 3, 6);
        fault("lifts 1 or or;", 3, 11);
        fault("lifts tin;", 3, 6);
        fault("lifts abcxyz;", 3, 6);
        fault("lifts z;", 3, 6);
        fault("lifts a;", 3, 6);
        fault("lifts {;", 1, 6);
        fault("lifts `;", 1, 6);
        fault("lifts :;", 1, 6);
        fault("lifts 9+0;", 0, NONE);
        fault("lifts not;", 1, 9);
        fault("lifts not lifts;", 3, 10);
        fault("lifts -1;", 1, 6);
        fault("lifts 1+;", 1, 8);
        fault("lifts (1;", 1, 8);
        fault("lifts (1));", 1, 9);
        fault("lifts ();", 1, 7);
        fault("lifts (1", 1, 8);
        fault("lifts 1>2;", 1, 7);
        fault("lifts 9999;", 0, NONE);
        fault("lifts 10000;", 2, 6);
        fault("lifts 00001;", 2, 6);
        fault("lifts 1 10000;", 1, 8);
        fault("lifts 1+(2<3)*(4=5 or 6);", 0, NONE);
        fault("lifts(note)*2;", 0, NONE);
        fault("lifts 3and 4or 5;", 0, NONE);
        fault("lifts 3and4;", 0, NONE);
        fault("lifts note5;", 1, 10);
    }

    private static void depth() {
        fault("lifts (((((1)))));", 0, NONE);
        fault("lifts ((((((1))))));", 2, 12);
        fault("lifts ((((((note", 2, 12);
        fault("lifts ((((((nonsense", 2, 12);
        fault("lifts ((((((not", 2, 12);
        fault("lifts (((((((", 2, 12);
        fault("lifts ((((((12345", 2, 12);
        fault("lifts (((((( )", 1, 13);
        fault("lifts ((((((+1", 1, 12);
        fault("lifts ((((((", 1, 12);
        fault("lifts ((((((;", 1, 12);
        fault("lifts (((((nonsense", 3, 11);
        fault("lifts (1)+(2)+(3)+(4)+(5)+(6)+(7)+(((((8)))));", 0, NONE);
        fault("lifts 1<(2 or (3 and (4+(5*(6-(7))))));", 2, 31);
    }

    private static void nots() {
        fault("lifts not not not not not not 1;", 0, NONE);
        fault("lifts not not not not not not not 1;", 2, 30);
        fault("lifts not not not not not not not;", 2, 30);
        fault("lifts not not not not not not nonsense;", 3, 30);
        fault("lifts not not not not not not (not 1) and not 2;", 0, NONE);
        fault("lifts not not not (not not not not 1);", 0, NONE);
    }

    private static void firstFaultCounts() {
        fault("tin 99 99 99 99 99", 2, 4);
        fault("stove 5;dish 3 3;x", 4, 15);
        fault("lifts 1;lifts nonsense 12345", 5, 8);
        fault("lifts nonsense+12345;", 3, 6);
        fault("lifts 12345+nonsense;", 2, 6);
    }

    private static void fault(String text, int due, int place) {
        KettleChoir choir = new KettleChoir();
        CHECK.same("the fault of '" + text + "'", Check.read(choir, text), due);
        CHECK.same("its place in '" + text + "'", choir.fault(), place);
        CHECK.same("status 0 of '" + text + "'", choir.count(12), due == 0 ? 0 : 1);
    }
}
