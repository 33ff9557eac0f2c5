/** Promises 9 to 11: texts of scales and habits, and the places of their faults. */
public final class TextsTest {
    private static final Check CHECK = new Check("TextsTest");

    public static void main(String[] args) {
        scaleAnswers();
        scaleHasRoomForEight();
        habitsAnswers();
        faultStays();
        rightScales();
        faultyScales();
        faultsOfNesting();
        faultsOfNumbers();
        fortyStatements();
        rightHabits();
        faultyHabits();
        longText();
        CHECK.end();
    }

    private static void same(String what, long got, long want) {
        CHECK.same(what, got, want);
    }

    private static void scaleAnswers() {
        WindWords x = new WindWords();
        same("9: n below", x.scale(-1, 0), -2);
        same("9: n above", x.scale(1, 0), -2);
        same("9: no year below", x.scale(0, -1), -2);
        same("9: no year above", x.scale(0, 10), -2);
        same("9: refused", x.count(8), 4);
        same("9: no bytes at all", x.scale(0, 9), 0);
        same("9: without fault", x.fault(), -1);
        int n = Check.feed(x, "sea 1 from 1;");
        same("9: more than there are", x.scale(21, 0), -2);
        same("9: nothing done", x.count(12), 20);
        same("9: its number", x.scale(n, 0), 1);
        same("9: the tape is empty", x.count(12), 0);
        Check.feed(x, "sea 1 from 1; sea");
        same("9: the rest goes, too", x.scale(13, 0), 2);
        same("9: empty", x.count(12), 0);
        same("9: a fault", Check.scale(x, "see", 0), -1);
        same("9: empty after it", x.count(12), 0);
        same("9: refused for it", x.count(10), 1);
        same("9: scales", x.count(3), 3);
    }

    private static void scaleHasRoomForEight() {
        WindWords x = new WindWords();
        for (int k = 0; k < 8; k++) {
            same("9: scale", Check.scale(x, "sea " + k + " from 1;", k), k);
        }
        int n = Check.feed(x, "see");
        same("9: eight are there", x.scale(n, 0), -3);
        same("9: no room", x.count(9), 1);
        same("9: nothing done", x.count(12), 20);
        same("9: not as told comes first", x.scale(21, 0), -2);
        same("9: wrong", x.count(8), 1);
        same("9: no fault", x.count(10), 0);
        same("9: no place of one", x.fault(), -1);
    }

    private static void habitsAnswers() {
        WindWords x = Check.crew(2);
        same("10: none such", x.habits(2, 0), -2);
        same("10: below", x.habits(-1, 0), -2);
        same("10: n below", x.habits(0, -1), -2);
        same("10: n above", x.habits(0, 1), -2);
        same("10: refused", x.count(8), 4);
        same("10: statements", Check.habits(x, 0, "lean up 2; write 3 for 4;"), 2);
        same("10: empty", x.count(12), 0);
        same("10: lean", x.blow(0, 0, 0, 8, 0), 3);
        same("10: write", x.blow(0, 0, 0, 16, 0), 3);
        same("10: of the other one none", x.blow(1, 0, 0, 8, 0), 1);
        same("10: a fault", Check.habits(x, 0, "lean up 5; lean up 13;"), -1);
        same("10: its place", x.fault(), 19);
        same("10: refused for it", x.count(10), 1);
        same("10: what was stays", x.blow(0, 0, 0, 8, 0), 3);
        same("10: and its statements", x.count(13), 2);
        same("10: empty after it", x.count(12), 0);
        same("10: in place of what was", Check.habits(x, 0, "lean down 1;"), 1);
        same("10: the new one", x.blow(0, 0, 0, 8, 0), 0);
        same("10: none at all", Check.habits(x, 0, ""), 0);
        same("10: as told", x.blow(0, 0, 0, 8, 0), 1);
        same("10: no statements", x.count(13), 0);
        Check.feed(x, "lean up 1;");
        same("10: none such does nothing", x.habits(2, 10), -2);
        same("10: the tape stays", x.count(12), 20);
        same("10: then", x.habits(1, 10), 1);
    }

    private static void faultStays() {
        WindWords x = Check.crew(1);
        same("11: none", x.fault(), -1);
        Check.scale(x, "sea 1 for", 0);
        same("11: of a scale", x.fault(), 6);
        x.scale(-1, 0);
        x.habits(1, 0);
        same("11: -2 leaves it", x.fault(), 6);
        Check.habits(x, 0, "lean");
        same("11: of habits", x.fault(), 4);
        Check.habits(x, 0, "");
        same("11: it had none", x.fault(), -1);
        Check.habits(x, 0, "x");
        same("11: at first", x.fault(), 0);
        for (int k = 0; k < 8; k++) {
            x.scale(0, 0);
        }
        same("11: of the latest", x.fault(), -1);
        Check.habits(x, 0, " x");
        same("11: behind a blank", x.fault(), 1);
        x.scale(0, 0);
        same("11: -3 leaves it", x.fault(), 1);
    }

    private static void rightScales() {
        String[] right = {
            "", " ", "\n", "canvas 0 from 0;", "sea 12 from 99;", "leaf1from2;", "canvas 3\nfrom\n4 ; \n",
            "sea 3 from 10 if rig<4;", "sea 3 from 10 if depth > 9999;", "sea 3 from 10 if year=0;",
            "sea 3 from 10 if rig=1and depth=2or year=3;", "sea 3 from 10 if not not rig=1;",
            "sea 3 from 10 if(rig=1);", "sea 3 from 10 if not(rig=1)and(not depth=2 or(year=3));",
            "sea 3 from 10 if rig=0007;", "sea 0000003 from 0000010;", "sea 012 from 099;",
        };
        for (String text : right) {
            WindWords x = new WindWords();
            same("9: right: " + text, Check.scale(x, text, 0), 0);
            same("11: right: " + text, x.fault(), -1);
        }
    }

    private static void faulty(String text, int place) {
        WindWords x = new WindWords();
        same("9: fault in: " + text, Check.scale(x, text, 0), -1);
        same("11: fault in: " + text, x.fault(), place);
        same("9: no scale of: " + text, x.count(3), 0);
        same("9: tape after: " + text, x.count(12), 0);
    }

    private static void faultyHabit(String text, int place) {
        WindWords x = Check.crew(1);
        same("10: fault in: " + text, Check.habits(x, 0, text), -1);
        same("11: fault in: " + text, x.fault(), place);
    }

    private static void faultyScales() {
        faulty("canvas", 6);
        faulty("canvas  ", 8);
        faulty("canvs 3 from 1;", 0);
        faulty("canvass 3 from 1;", 0);
        faulty("seaz 3 from 1;", 0);
        faulty("sea 3 froma1;", 6);
        faulty("sea 3 from{1;", 10);
        faulty("sea 3 from`1;", 10);
        faulty("sea 3/from 1;", 5);
        faulty("sea 3:from 1;", 5);
        faulty("  cup 3 from 1;", 2);
        faulty("Sea 3 from 1;", 0);
        faulty("lean up 1;", 0);
        faulty("sea from 1;", 4);
        faulty("sea 3 1;", 6);
        faulty("sea 3 from", 10);
        faulty("sea 3 from ;", 11);
        faulty("sea 3 from 10", 13);
        faulty("sea 3 from 10 rig=1;", 14);
        faulty("sea 3 from 10;;", 14);
        faulty("sea 3 from 10;\nsea", 18);
        faulty("sea 3 from 10 if", 16);
        faulty("sea 3 from 10 if;", 16);
        faulty("sea 3 from 10 if spars<4;", 17);
        faulty("sea 3 from 10 if number<4;", 17);
        faulty("sea 3 from 10 if 3<rig;", 17);
        faulty("sea 3 from 10 if rig;", 20);
        faulty("sea 3 from 10 if rig<", 21);
        faulty("sea 3 from 10 if rig<=3;", 21);
        faulty("sea 3 from 10 if rig<depth;", 21);
        faulty("sea 3 from 10 if rig<4", 22);
        faulty("sea 3 from 10 if rig<4 rig<5;", 23);
        faulty("sea 3 from 10 if rig<4 and;", 26);
        faulty("sea 3 from 10 if rig<4 or and rig<5;", 26);
        faulty("sea 3 from 10 if (rig=1;", 23);
        faulty("sea 3 from 10 if rig=1);", 22);
        faulty("sea 3 from 10 if ();", 18);
        faulty("sea 3 from 10 ifrig=1;", 14);
        faulty("sea 3 from 10 if notrig=1;", 17);
        faulty("sea\t3 from 10;", 3);
        faulty("sea 3 from 10\r;", 13);
        faulty("sea 3 from 10;\u00e9", 14);
        faulty("sea -3 from 10;", 4);
        faulty("sea 3.0 from 10;", 5);
        faulty("sea x \u0001", 4);
    }

    private static void faultsOfNesting() {
        String head = "sea 3 from 10 if ";
        String nine = "(".repeat(9) + "rig=1" + ")".repeat(9) + ";";
        WindWords x = new WindWords();
        same("9: nine open", Check.scale(x, head + nine, 0), 0);
        same("9: nine not", Check.scale(x, head + "not ".repeat(9) + "rig=1;", 0), 1);
        same("9: nine of both", Check.scale(x, head + "not(".repeat(4) + "not rig=1" + "))));", 0), 2);
        same("9: one behind another", Check.scale(x, head + "not rig=1 and ".repeat(12) + "(rig=1) or(rig=1);", 0), 3);
        same("9: nine twice", Check.scale(x, head + "(".repeat(8) + "not rig=1 and not rig=2" + ")".repeat(8) + ";", 0), 4);
        faulty(head + "(" + nine, 17 + 9);
        faulty(head + "not ".repeat(10) + "rig=1;", 17 + 36);
        faulty(head + "not(".repeat(5) + "rig=1)))));", 17 + 19);
        faulty(head + "(".repeat(9) + "rig=1 and not rig=2" + ")".repeat(9) + ";", 17 + 9 + 10);
        faulty(head + "(".repeat(400), 17 + 9);
    }

    private static void faultsOfNumbers() {
        faulty("sea 13 from 10;", 4);
        faulty("sea 12 from 100;", 12);
        faulty("sea 99999999999999999999 from 10;", 4);
        faulty("sea 4294967297 from 10;", 4);
        faulty("sea 1 from 4294967297;", 11);
        faulty("sea 3 from 10 if rig<10000;", 21);
        faulty("sea 3 from 10 if rig<00010;", 21);
        faulty("sea 3 from 10 if rig<4294967297;", 21);
    }

    private static void fortyStatements() {
        String one = "sea 1 from 1;";
        WindWords x = Check.crew(1);
        same("9: forty", Check.scale(x, one.repeat(40), 0), 0);
        same("9: forty and a blank", Check.scale(x, one.repeat(40) + " ", 0), 1);
        same("10: forty", Check.habits(x, 0, "lean up 1;".repeat(39) + "write 1 for 2;"), 40);
        same("10: forty-one", Check.habits(x, 0, "lean up 1;".repeat(41)), -1);
        same("11: where it begins", x.fault(), 400);
        same("10: forty stay", x.count(13), 40);
        faulty(one.repeat(41), 520);
        faulty(one.repeat(40) + "  \nsea", 523);
        faulty(one.repeat(40) + " !", 521);
        faulty(one.repeat(42), 520);
    }

    private static void rightHabits() {
        String[] right = {
            "", "lean up 0;", "lean down 12;", "write 12 for 0;", "lean up 1 if number=3;", "lean up 1 if spars>0;",
            "lean up 1 if not(rig=1 or year=2)and number<12;", "lean up1;write1for2;",
        };
        int[] statements = {0, 1, 1, 1, 1, 1, 1, 2};
        for (int k = 0; k < right.length; k++) {
            WindWords x = Check.crew(1);
            same("10: right: " + right[k], Check.habits(x, 0, right[k]), statements[k]);
            same("11: right: " + right[k], x.fault(), -1);
            same("33: statements of: " + right[k], x.count(13), statements[k]);
        }
    }

    private static void faultyHabits() {
        faultyHabit("sea 1 from 1;", 0);
        faultyHabit("leanup 1;", 0);
        faultyHabit("lean 2 up;", 5);
        faultyHabit("lean sideways 2;", 5);
        faultyHabit("lean up;", 7);
        faultyHabit("lean up 13;", 8);
        faultyHabit("lean up 2", 9);
        faultyHabit("lean up 2 for 3;", 10);
        faultyHabit("lean up 1 if depth=1;", 13);
        faultyHabit("write 13 for 1;", 6);
        faultyHabit("write 1 for 13;", 12);
        faultyHabit("write 1 from 1;", 8);
        faultyHabit("write 1 for 2 if rig=1;", 14);
        faultyHabit("write 1 for 2", 13);
        faultyHabit("write for", 6);
    }

    private static void longText() {
        StringBuilder text = new StringBuilder("sea 1 from 1 if rig=1");
        while (text.length() + 12 < 880) {
            text.append(" and rig=1");
        }
        text.append(';');
        WindWords x = new WindWords();
        same("9: a long one", Check.scale(x, text.toString(), 0), 0);
        same("9: that holds", x.reads(0, 1, 1, 10), 1);
        same("9: that doesn't", x.reads(0, 1, 1, 20), 0);
        StringBuilder alternate = new StringBuilder("sea 1 from 1 if(rig=1");
        while (alternate.length() < 870) {
            alternate.append("or rig<1 and rig>1 ");
        }
        alternate.append(");");
        same("9: another long one", Check.scale(x, alternate.toString(), 1), 1);
        same("9: it holds", x.reads(1, 1, 1, 10), 1);
        same("9: it doesn't", x.reads(1, 1, 1, 0), 0);
    }
}
