/** Promises 1 to 14: the town. */
public final class TownTest {
    static final String TOWN = "r505@0;r325w@1;r209@0;b5;b3/2;b7/4;f0;f1*2;f2*0";
    private static final Due due = new Due("TownTest");

    public static void main(String[] args) {
        newObject();
        signAndEnd();
        townLines();
        townWrong();
        townRoom();
        townIsAllOrNothing();
        ruleWrong();
        ruleValues();
        frostText();
        roofAsked();
        birdAsked();
        familyAsked();
        worthAsked();
        builds();
        rings();
        swears();
        sheets();
        due.finish();
    }

    private static void newObject() {
        StorksLet s = new StorksLet();
        for (int what = 0; what <= 11; what++) {
            due.is("new, count " + what, s.count(what), 0);
        }
        due.is("NONE", StorksLet.NONE, -1);
        due.noSuch("new, row(0)", () -> s.row(0));
        due.noSuch("new, roof(0, 0)", () -> s.roof(0, 0));
        due.noSuch("new, bird(0, 0)", () -> s.bird(0, 0));
        due.noSuch("new, family(0, 0)", () -> s.family(0, 0));
    }

    private static void signAndEnd() {
        StorksLet s = new StorksLet();
        due.is("four signs", s.sign(0x62353B62), 4);
        due.is("four more", s.sign(0x362F3939), 8);
        due.is("end beyond", s.end(9), false);
        due.is("end below 0", s.end(-1), false);
        due.is("text stays", s.count(11), 8);
        due.is("all of it", s.end(8), true);
        due.is("end", s.end(5), true);
        due.is("cut", s.count(11), 5);
        due.is("signs behind a cut text", s.sign(0x2F393900), 9);
        due.is("end again", s.end(8), true);
        due.is("b5;b6/99, the highest byte first", s.town(), 2);
        due.is("strength of the second", s.bird(1, 0), 6);
        due.is("its arrival", s.bird(1, 1), 99);
        due.is("a text that was read is empty", s.count(11), 0);
        for (int i = 1; i <= 20; i++) {
            due.is("sign " + i, s.sign(-1), 4 * i);
        }
        due.is("no sign behind 80", s.sign(0x30303030), -1);
        due.is("80 stay", s.count(11), 80);
        due.is("end 77", s.end(77), true);
        due.is("81 would be too many", s.sign(0), -1);
        due.is("end 76", s.end(76), true);
        due.is("80 are not", s.sign(0), 80);
        due.is("end of all", s.end(80), true);
        due.is("a refused text", s.town(), -1);
        due.is("is empty too", s.count(11), 0);
        due.is("an empty text ends at 0", s.end(0), true);
        s.sign(1);
        due.is("another too", s.end(0), true);
        due.is("it is empty then", s.count(11), 0);
        due.is("it has not 1", s.end(1), false);
    }

    private static void townLines() {
        StorksLet s = Due.town(TOWN);
        due.is("roofs", s.count(0), 3);
        due.is("birds", s.count(1), 3);
        due.is("families", s.count(2), 3);
        due.is("more lines", Due.addTown(s, "b9/09;f3*9;r987@3"), 3);
        due.is("they come behind", s.bird(3, 0), 9);
        due.is("two digits", s.bird(3, 1), 9);
        due.is("rent", s.family(3, 1), 9);
        due.is("rent at first", s.family(0, 1), 1);
        due.is("a lord", s.roof(3, 4), 3);
        due.is("no nest", s.roof(3, 5), -1);
        due.is("an empty text", Due.addTown(s, ""), 0);
        due.is("roofs stay", s.count(0), 4);
        due.is("arrival of 2 digits", Due.addTown(s, "b1/99"), 1);
        due.is("99", s.bird(4, 1), 99);
    }

    private static void townWrong() {
        String[] texts = {"x", "r", "r5", "r50", "r505", "r505w", "r505ww", "r505@", "r505@4", "r505@0@", "r505@0;", "b", "b0",
            "r:", "r0:", "r00/", "r000@:", "b:", "b5/:", "b5/1:", "b5;f:", "b5;f0*:", "b5/", "b5/x", "b5/123", "b5x", "f0", "b5;f1", "b5;f0*", "b5;f0*12", "b5;;b5", ";", "r50:", "R505@0", "f", "b5;fx"};
        int[] places = {0, 1, 2, 3, 4, 5, 5, 5, 5, 6, 7, 1, 1, 1, 2, 3, 5, 1, 3, 4, 4, 6, 3, 3, 5, 2, 1, 4, 6, 7, 3, 0, 3, 0, 1, 4};
        for (int i = 0; i < texts.length; i++) {
            StorksLet s = new StorksLet();
            due.is("town " + texts[i], Due.addTown(s, texts[i]), -1 - places[i]);
            due.is("nothing came of " + texts[i], s.count(0) + s.count(1) + s.count(2) + s.count(11), 0);
        }
    }

    private static void townRoom() {
        due.is("seven birds", Due.addTown(new StorksLet(), "b1;b1;b1;b1;b1;b1;b1"), -19);
        due.is("the seventh's first sign", Due.addTown(new StorksLet(), "b1;b1;b1;b1;b1;b1;bx"), -19);
        StorksLet s = Due.town("r111@0;r111@0;r111@0;r111@0;r111@0;r111@0", "b1;b1;b1;b1;b1;b1", "f0;f0;f0;f0;f0;f0;f0;f5");
        due.is("no roof more", Due.addTown(s, "r111@0"), -1);
        due.is("no bird more", Due.addTown(s, "b1"), -1);
        due.is("no family more", Due.addTown(s, "f0"), -1);
        due.is("nothing", Due.addTown(s, ""), 0);
        String lines = "r111w@0;r111@0;r111@0;r111@0;r111@0;r111@0;b1;b1;b1;b1;b1;b1;f0;f0;f0*1;f0*1";
        due.is("76 signs", lines.length(), 76);
        due.is("76 signs are read", Due.addTown(new StorksLet(), lines), 16);
        due.is("77: could go on", Due.addTown(new StorksLet(), lines + ";"), -77);
        due.is("77: could end", Due.addTown(new StorksLet(), lines + "x"), -77);
        due.is("80: wrong earlier", Due.addTown(new StorksLet(), lines.substring(0, 75) + "x;f0"), -76);
        due.is("75 that end too early", Due.addTown(new StorksLet(), lines.substring(0, 75)), -76);
        due.is("no room at 72", Due.addTown(new StorksLet(), lines.substring(0, 72) + "b1"), -73);
        due.is("; twice at 72", Due.addTown(new StorksLet(), lines.substring(0, 72) + ";b1;b1"), -73);
        due.is("76 that end too early, in a line", Due.addTown(new StorksLet(), "b1/10;b1/10;b1/10;b1/10;b1/10;b1/1;f0*1;f0*1;f0*1;f0*1;f0*1;f0*1;f0*1;r111w@"), -77);
        due.is("the same and more", Due.addTown(new StorksLet(), "b1/10;b1/10;b1/10;b1/10;b1/10;b1/1;f0*1;f0*1;f0*1;f0*1;f0*1;f0*1;f0*1;r111w@1"), -77);
    }

    private static void townIsAllOrNothing() {
        StorksLet s = Due.town(TOWN);
        s.day();
        due.is("the last line can't", Due.addTown(s, "r111@0;b1;f3;f4"), -15);
        due.is("roofs", s.count(0), 3);
        due.is("birds", s.count(1), 3);
        due.is("families", s.count(2), 3);
        due.is("nests stay", s.bird(0, 2), 2);
        due.is("it can still be undone", s.count(8), 1);
    }

    private static void ruleWrong() {
        String[] texts = {"x", "h+", "h<s<v", "h<s=v", "(h", "(((((h", "((((h))))", "1000", "h)", "()", "h(", "h h", "hh", "h1", "1h",
            "*h", "h*", "--", "(h<s)<v", "h<(s<v)", "h<s+v*2", "(h<s<v)", "(h<s)+(h<s)", "1+2=3>0", "(1)2", "+h", "h+-", "h--s", "999", "(999", "1+h2", "1+(h)2", "12+i"};
        int[] places = {0, 2, 3, 3, 2, 4, -1, 3, 1, 1, 1, 1, 1, 1, 1,
            0, 2, 2, -1, -1, -1, 4, -1, 5, 3, 0, 3, -1, -1, 4, 3, 5, -1};
        for (int i = 0; i < texts.length; i++) {
            StorksLet s = Due.town("r505@0;b5");
            Due.rule(s, "42");
            int p = places[i];
            due.is("rule " + texts[i], Due.rule(s, texts[i]), p < 0 ? 0 : -1 - p);
            if (p >= 0) {
                due.is("the rule stays with " + texts[i], s.worth(0, 0), 42);
            }
            due.is("the text is empty", s.count(11), 0);
        }
        String forty = "1+1+1+1+1+1+1+1+1+1+1+1+1+1+1+1+1+1+1+10";
        StorksLet s = Due.town("r505@0;b5");
        due.is("40 signs", Due.rule(s, forty), 0);
        due.is("their value", s.worth(0, 0), 29);
        due.is("41: could end", Due.rule(s, forty + "+"), -41);
        due.is("41: could go on", Due.rule(s, forty.substring(0, 38) + "((1"), -41);
        due.is("40 that end too early", Due.rule(s, forty.substring(0, 38) + "1+"), -41);
        due.is("45 that are wrong earlier", Due.rule(s, forty.substring(0, 30) + "1++++++++)+++++"), -33);
        due.is("40 minuses", Due.rule(s, "-".repeat(39) + "7"), 0);
        due.is("39 times less", s.worth(0, 0), -7);
    }

    private static void ruleValues() {
        // ROOF 1: h 3, s 2, v 5, w 1; BIRD 2: k 7, two FAMILIES.
        StorksLet s = Due.town("r505@0;r325w@1;r209@0;b5;b3/2;b7/4;f2;f1*2;f2*0");
        String[] rules = {"", "h", "s", "v", "w", "r", "i", "k", "o", "d", "f", "h+v-s", "h-v-s", "h-(v-s)", "h*v-s", "h-v*s",
            "7/2", "-7/2", "7/-2", "0-7/2", "h/0", "h/(s-2)", "12/2*3", "12/(2*3)", "h<v", "h>v", "v>h", "v<h", "v>v", "v<v", "h=3", "v=s", "v=v", "3=h=1", "2*(h<v)", "1+2<4",
            "(1+2<4)+1", "--h", "-h*-v", "999*h", "-999*h", "999*999*999*999", "h+999*999*999*999", "999*999*999*9/9/9", "h<v+1-9"};
        int[] values = {6, 3, 2, 5, 1, 1, 2, 7, 0, 0, 2, 6, -4, 0, 13, -7,
            3, -3, -3, -3, 0, 0, 18, 2, 1, 0, 1, 0, 0, 0, 1, 0, 1, 6, 2, 1,
            2, 3, 15, 999, -999, -999, -999, 999, 0};
        for (int i = 0; i < rules.length; i++) {
            int answer = Due.rule(s, rules[i]);
            if (answer < 0) {
                Due.rule(s, "");
            }
            due.is("value of " + rules[i], s.worth(1, 2), values[i]);
        }
        Due.rule(s, "999*999*999*3");
        due.is("it wraps below 0", s.worth(0, 0), 999 * 999 * 999 * 3 > 0 ? 999 : -999);
        Due.rule(s, "999*999*999*3/999/999/2");
        due.is("and goes on as an int", s.worth(0, 0), -653);
        Due.rule(s, "o*50+d");
        s.days(5);
        due.is("o and d", s.worth(s.bird(2, 2), 2), 55);
        due.is("o elsewhere", s.worth(s.bird(2, 2) == 0 ? 1 : 0, 2), 5);
        due.is("no rule", Due.rule(s, ""), 0);
        due.is("h+v-s", s.worth(0, 0), 10);
    }

    private static void frostText() {
        StorksLet s = Due.town("r505@0;b5;f0");
        due.is("digits", Due.frost(s, "05"), 2);
        due.is("the text is empty", s.count(11), 0);
        s.day();
        due.is("day 0", s.bird(0, 2), 0);
        s.day();
        due.is("day 1: strength is frost or less", s.bird(0, 2), -1);
        s.day();
        due.is("again from the first on", s.bird(0, 2), 0);
        due.is("wrong", Due.frost(s, "9x"), -2);
        due.is("the text is empty all the same", s.count(11), 0);
        due.is("wrong at first", Due.frost(s, "-"), -1);
        due.is("no digit", Due.frost(s, "0:"), -2);
        s.day();
        due.is("frost is as it was", s.bird(0, 2), -1);
        due.is("40", Due.frost(s, "4".repeat(40)), 40);
        s.days(3);
        due.is("4 is not enough", s.bird(0, 2), 0);
        due.is("41", Due.frost(s, "0".repeat(41)), -41);
        due.is("80, wrong at 39", Due.frost(s, "0".repeat(39) + ";" + "0".repeat(40)), -40);
        due.is("80, wrong behind 40", Due.frost(s, "0".repeat(40) + "x"), -41);
        due.is("none", Due.frost(s, ""), 0);
        due.is("text", s.count(11), 0);
    }

    private static void roofAsked() {
        StorksLet s = Due.town(TOWN);
        s.days(6);
        int[] want = {3, 2, 5, 1, 1, 1, 1};
        for (int what = 0; what < want.length; what++) {
            due.is("roof 1, " + what, s.roof(1, what), want[what]);
        }
        s.swear(0, 1);
        due.is("a family lives there till the next day", s.roof(1, 6), 1);
        s.day();
        due.is("two live there", s.roof(1, 6), 2);
        due.noSuch("roof -1", () -> s.roof(-1, 0));
        due.noSuch("roof 3", () -> s.roof(3, 0));
        due.noSuch("what -1", () -> s.roof(0, -1));
        due.noSuch("what 7", () -> s.roof(0, 7));
    }

    private static void birdAsked() {
        StorksLet s = Due.town(TOWN);
        due.is("no nest", s.bird(2, 2), -1);
        due.is("worth of none", s.bird(2, 3), 0);
        s.days(6);
        int[] want = {7, 4, 2, 11, 1, 2};
        for (int what = 0; what < want.length; what++) {
            due.is("bird 2, " + what, s.bird(2, what), want[what]);
        }
        due.is("most worth of all, whoever sits there", s.bird(1, 5), 2);
        Due.rule(s, "0-5");
        due.is("the first of equal ones, below 0 too", s.bird(1, 5), 0);
        Due.rule(s, "0-o");
        due.is("its own counts with o", s.bird(0, 5), 1);
        due.is("below 0", s.bird(0, 3), -1);
        due.is("no roofs", Due.town("b1").bird(0, 5), -1);
        due.noSuch("bird -1", () -> s.bird(-1, 0));
        due.noSuch("bird 3", () -> s.bird(3, 0));
        due.noSuch("what -1", () -> s.bird(0, -1));
        due.noSuch("what 6", () -> s.bird(0, 6));
    }

    private static void familyAsked() {
        StorksLet s = Due.town(TOWN);
        s.days(6);
        // FAMILY 1: under BIRD 1, on ROOF 0 in DAYS 2 to 4, on ROOF 1 in DAY 5.
        int[] want = {1, 2, 1, 2, 8};
        for (int what = 0; what < want.length; what++) {
            due.is("family 1, " + what, s.family(1, what), want[what]);
        }
        due.noSuch("family -1", () -> s.family(-1, 0));
        due.noSuch("family 3", () -> s.family(3, 0));
        due.noSuch("what -1", () -> s.family(0, -1));
        due.noSuch("what 5", () -> s.family(0, 5));
    }

    private static void worthAsked() {
        StorksLet s = Due.town(TOWN);
        due.is("worth", s.worth(1, 2), 6);
        due.noSuch("roof 3", () -> s.worth(3, 0));
        due.noSuch("bird 3", () -> s.worth(0, 3));
        due.noSuch("roof -1", () -> s.worth(-1, 0));
        due.noSuch("bird -1", () -> s.worth(0, -1));
    }

    private static void builds() {
        StorksLet s = Due.town(TOWN);
        int[] most = {9, 9, 9, 1, 3};
        int[] was = {3, 2, 5, 1, 1};
        for (int what = 0; what < most.length; what++) {
            due.is("build beyond", s.build(1, what, most[what] + 1), -1);
            due.is("build below 0", s.build(1, what, -1), -1);
            due.is("build 0", s.build(1, what, 0), was[what]);
            due.is("build most", s.build(1, what, most[what]), 0);
            due.is("is", s.roof(1, what), most[what]);
        }
        due.is("worth follows", s.worth(1, 0), 9);
        due.is("what 5", s.build(1, 5, 0), -1);
        due.is("what -1", s.build(1, -1, 0), -1);
        due.is("roof 3", s.build(3, 0, 0), -1);
        due.is("roof -1", s.build(-1, 0, 0), -1);
    }

    private static void rings() {
        StorksLet s = Due.town(TOWN);
        due.is("strength", s.ring(1, 0, 9), 3);
        due.is("is", s.bird(1, 0), 9);
        due.is("arrival", s.ring(1, 1, 0), 2);
        due.is("is", s.bird(1, 1), 0);
        due.is("99", s.ring(1, 1, 99), 0);
        due.is("100", s.ring(1, 1, 100), -1);
        due.is("-1", s.ring(1, 1, -1), -1);
        due.is("0", s.ring(1, 0, 0), -1);
        due.is("10", s.ring(1, 0, 10), -1);
        due.is("1", s.ring(1, 0, 1), 9);
        due.is("what 2", s.ring(1, 2, 1), -1);
        due.is("what -1", s.ring(1, -1, 1), -1);
        due.is("bird 3", s.ring(3, 0, 1), -1);
        due.is("bird -1", s.ring(-1, 0, 1), -1);
        Due.rule(s, "k");
        due.is("worth ahead", s.worth(0, 1), 1);
        s.ring(1, 0, 8);
        due.is("worth follows", s.worth(0, 1), 8);
    }

    private static void swears() {
        StorksLet s = Due.town(TOWN);
        Due.rule(s, "f");
        due.is("f ahead", s.worth(0, 2), 1);
        due.is("swear", s.swear(0, 2), 0);
        due.is("its bird", s.family(0, 0), 2);
        due.is("families of 2", s.bird(2, 4), 2);
        due.is("families of 0", s.bird(0, 4), 0);
        due.is("f follows", s.worth(0, 2), 2);
        due.is("the same again", s.swear(0, 2), 2);
        due.is("bird 3", s.swear(0, 3), -1);
        due.is("bird -1", s.swear(0, -1), -1);
        due.is("family 3", s.swear(3, 0), -1);
        due.is("family -1", s.swear(-1, 0), -1);
    }

    private static void sheets() {
        StorksLet s = Due.town(TOWN);
        due.is("ints", s.sheet(2, 3, 5, 60), 23);
        due.is("put to 9", s.roof(2, 2), 9);
        due.is("fewer: those behind have 0", s.sheet(2, 1, 4, 0), 4);
        due.is("0", s.roof(1, 2), 0);
        due.is("more are left aside", s.sheet(2, 6, 1, 1), 6);
        due.is("bytes", s.sheet(0, 3, 255, 2), 0 + 1 + 3);
        due.is("shorts", s.sheet(1, 3, 65535, 3), 0 + 2 + 5);
        due.is("shorts keep what bytes lose", s.sheet(1, 1, 256, 0), 9);
        due.is("bytes lose it", s.sheet(0, 1, 256, 0), 0);
        due.is("ints wrap", s.sheet(2, 2, Integer.MAX_VALUE, 1), 9);
        due.is("n 0", s.sheet(2, 0, 9, 9), 0);
        due.is("views are 0", s.roof(0, 2), 0);
        s.sheet(2, 3, 1, 1);
        due.is("n below 0", s.sheet(0, -1, 9, 9), -2);
        due.is("nothing changes", s.roof(2, 2), 3);
        due.is("n above 6", s.sheet(2, 7, 9, 9), -1);
        due.is("a missing one, n above 6", s.sheet(3, 7, 9, 9), -1);
        due.is("kind 4", s.sheet(4, 1, 9, 9), -1);
        due.is("kind 4, n below 0", s.sheet(4, -1, 9, 9), -1);
        due.is("kind -1", s.sheet(-1, 1, 9, 9), -1);
        due.is("nothing changes", s.roof(2, 2), 3);
        due.is("missing, n below 0", s.sheet(3, -1, 9, 9), -3);
        due.is("all 0", s.roof(0, 2) + s.roof(1, 2) + s.roof(2, 2), 0);
        due.is("worth follows", s.worth(0, 0), 5);
        due.is("no roofs", new StorksLet().sheet(2, 3, 5, 1), 0);
    }
}
