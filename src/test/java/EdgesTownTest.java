import java.io.IOException;
import java.util.List;
import java.util.function.ToIntFunction;

/** The boundaries that promises 1 to 14 name. */
public final class EdgesTownTest {
    private static final String FULL_ROOFS = "r505@0;r414@1;r323@2;r232w@3;r141@0;r959@1";
    private static final String FULL_BIRDS = "b1;b2;b3;b4;b5;b6";
    private static final String FULL_FAMILIES = "f5;f4;f3;f2;f1;f0;f5*2;f5*3";
    private static Edges edges;

    public static void main(String[] args) throws IOException {
        edges = new Edges("EdgesTownTest");
        newObject();
        sign();
        end();
        townEmptyAndWrong();
        townTooLong();
        townWithoutRoom();
        rule();
        frost();
        roof();
        bird();
        family();
        worth();
        build();
        ring();
        swear();
        sheet();
        sheetKinds();
        edges.finish(1, 14);
    }

    private static StorksLet fullTown() {
        return Due.town(FULL_ROOFS, FULL_BIRDS, FULL_FAMILIES);
    }

    private static void newObject() {
        edges.edge(1, "No ROOFS, no BIRDS.", d -> {
            StorksLet s = new StorksLet();
            for (int what = 0; what <= 11; what++) {
                d.is("count " + what, s.count(what), 0);
            }
            d.noSuch("ROOF 0", () -> s.roof(0, 0));
            d.noSuch("BIRD 0", () -> s.bird(0, 0));
            d.noSuch("FAMILY 0", () -> s.family(0, 0));
            d.noSuch("WORTH", () -> s.worth(0, 0));
            d.noSuch("a number of the ROW", () -> s.row(0));
            d.is("nothing kept", s.again(0), false);
            d.is("nothing kept", s.again(1), false);
            d.is("nothing to undo", s.undo(), -1);
            d.is("a LORD", s.lord(3), 0);
            d.row("a LORD", s, 0, 0);
            d.is("a DAY goes by", s.day(), 0);
            d.row("a DAY goes by", s, 0, 0);
        });
    }

    private static void sign() {
        edges.edge(2, "of v the highest byte first: how many it has", d -> {
            StorksLet s = new StorksLet();
            d.is("b2/1", s.sign('b' << 24 | '2' << 16 | '/' << 8 | '1'), 4);
            d.is("7;b3", s.sign('7' << 24 | ';' << 16 | 'b' << 8 | '3'), 8);
            d.is("two BIRDS", s.town(), 2);
            d.is("ARRIVAL", s.bird(0, 1), 17);
            d.is("bytes above 127 count", s.sign(0xFFFEFD80), 4);
            d.is("but can't stand in a text", s.frost(), -1);
            s.sign(0x30FF3030);
            d.is("the second can't", s.frost(), -2);
        });
        edges.edge(2, "Refused: there would be more than 80.", d -> {
            StorksLet s = new StorksLet();
            for (int n = 4; n <= 80; n += 4) {
                d.is("up to " + n, s.sign(0x30303030), n);
            }
            d.is("84", s.sign(0x30303030), -1);
            d.is("80 stay", s.count(11), 80);
            s.end(77);
            d.is("81", s.sign(0x30303030), -1);
            d.is("77 stay", s.count(11), 77);
            s.end(76);
            d.is("80 again", s.sign(0x31313131), 80);
            s.end(40);
            d.is("what was told is read", s.frost(), 40);
        });
    }

    private static void end() {
        edges.edge(3, "THE TEXT has its first n signs alone: true", d -> {
            StorksLet s = new StorksLet();
            Due.tell(s, "d;d;");
            d.is("all", s.end(4), true);
            d.is("3", s.end(3), true);
            d.is("3 are left", s.count(11), 3);
            d.is("2", s.end(2), true);
            d.is("what stood behind them is not read", s.spring(), -3);
            Due.tell(s, "b1/99");
            s.end(4);
            d.is("a digit that stood behind is not read", s.town(), 1);
            d.is("ARRIVAL", s.bird(0, 1), 9);
            Due.tell(s, "1+1");
            s.end(1);
            d.is("nor by the rule", s.rule(), 0);
            Due.tell(s, "905");
            s.end(2);
            d.is("nor by frost", s.frost(), 2);
            Due.tell(s, "--");
            s.end(1);
            d.is("nor by the aim", s.aim(), 1);
        });
        edges.edge(3, "false if it has not so many, or n is below 0.", d -> {
            StorksLet s = new StorksLet();
            d.is("0 of none", s.end(0), true);
            d.is("1 of none", s.end(1), false);
            Due.tell(s, "b1;b1");
            int[] wrong = {6, 80, Integer.MAX_VALUE, -1, Integer.MIN_VALUE};
            for (int n : wrong) {
                d.is("end " + n, s.end(n), false);
            }
            d.is("THE TEXT stays", s.count(11), 5);
            d.is("THE TEXT stays", s.town(), 2);
            d.is("then it is empty", s.end(1), false);
        });
    }

    /** Each beginning of a text is told: it ends too early, but for those of these lengths. */
    private static void beginnings(Due d, String text, ToIntFunction<String> call, Integer... wholes) {
        for (int n = 1; n <= text.length(); n++) {
            int answer = call.applyAsInt(text.substring(0, n));
            if (List.of(wholes).contains(n)) {
                d.is(text.substring(0, n) + " is whole", answer >= 0, true);
            } else {
                d.is(text.substring(0, n), answer, -1 - n);
            }
        }
    }

    private static void townEmptyAndWrong() {
        edges.edge(4, "(an empty one: nothing): how many LINES", d -> {
            StorksLet s = new StorksLet();
            d.is("a new object's", s.town(), 0);
            d.is("one LINE", Due.addTown(s, "b1"), 1);
            d.is("an empty one", s.town(), 0);
            d.is("nothing comes", s.count(1), 1);
            d.is("nine LINES", Due.addTown(new StorksLet(), "b1" + ";f0".repeat(8)), 9);
        });
        edges.edge(4, "-1 - p: the sign at p can't stand there (its end, if it ends too early;", d -> {
            beginnings(d, "r909w@3;b7/34;f0*5", text -> Due.addTown(new StorksLet(), text), 7, 10, 12, 13, 16, 18);
            d.is("at 0", Due.addTown(new StorksLet(), " b1"), -1);
            d.is("in the second LINE", Due.addTown(new StorksLet(), "b1;c1"), -4);
            d.is("; at the end", Due.addTown(new StorksLet(), "b1;"), -4);
            String[] short1 = {"r@0", "r5@0", "r50@0", "rw@0", "r5w@0", "r50w@0", "r505w0", "r505@", "b/1", "b@0"};
            int[] places = {1, 2, 3, 1, 2, 3, 5, 5, 1, 1};
            for (int i = 0; i < short1.length; i++) {
                d.is(short1[i], Due.addTown(new StorksLet(), short1[i]), -1 - places[i]);
            }
        });
        edges.edge(4, "Nothing of it comes, if a LINE can't.", d -> {
            StorksLet s = Due.town("b1");
            d.is("the third LINE", Due.addTown(s, "r111@0;f0;f1;b2"), -12);
            d.is("ROOFS", s.count(0), 0);
            d.is("FAMILIES", s.count(2), 0);
            d.is("BIRDS", s.count(1), 1);
            d.is("what comes next is the first", Due.addTown(s, "r222@0"), 1);
            d.is("what comes next is the first", s.roof(0, 0), 2);
        });
        edges.edge(4, "Nothing of it comes", d -> nothingCame(d));
    }

    /** After a town that was refused no call knows the ROOF, the BIRD and the FAMILY that it told. */
    private static void nothingCame(Due d) {
        StorksLet s = Due.town("r505@0;b5");
        s.keep(0);
        s.day();
        d.is("refused", Due.addTown(s, "r909@0;b9;f0;f1;q"), -17);
        d.noSuch("ROOF 1", () -> s.roof(1, 0));
        d.noSuch("BIRD 1", () -> s.bird(1, 0));
        d.noSuch("FAMILY 0", () -> s.family(0, 0));
        d.noSuch("WORTH of ROOF 1", () -> s.worth(1, 0));
        d.noSuch("WORTH for BIRD 1", () -> s.worth(0, 1));
        int[] answers = {s.build(1, 0, 1), s.ring(1, 0, 1), s.swear(0, 0), s.pay(0, 0, 1), s.owes(0, 0), s.later(1, 1), s.moves(0, 1),
            s.homeless(1), s.win(1, 0, 1), s.win(0, 1, 1), s.drive(1, 1), s.choose(0, 1), s.seen(1, 0, 1), s.seen(0, 1, 1),
            s.strengths(1), s.latest(1), s.chance(1, 1, 1), s.safest(1, 1), Due.spring(s, "w1"), Due.spring(s, "x1"), Due.spring(s, "f0>0")};
        int[] want = {-1, -1, -1, -1, -1, -2, -1, -1, -1, -1, -1, -1, -1, -1, -1, -1, -1, -2, 0, 0, 0};
        for (int i = 0; i < want.length; i++) {
            d.is("call " + i, answers[i], want[i]);
        }
        d.is("VIEWS", s.sheet(2, 6, 1, 0), 1);
        d.is("STRENGTHS", s.strengths(0), 1022);
        d.is("who may be absent", s.absent(), 1);
        d.is("an AIM for two", Due.aim(s, "0-"), -2);
        d.is("an AIM for one", Due.aim(s, "0"), 1);
        Due.addTown(s, "r909@0;b9;f0;f1;q");
        d.is("it holds", s.fewest(), 0);
        d.is("it holds", s.gently(), 0);
        d.is("ways", s.ways(), 1);
        s.chance(0, 1, 5);
        d.row("one BIRD's chance", s, 1, 2);
        d.is("rounds", s.courts(1, 1), 1);
        d.row("no ROOF with a WHEEL", s, 1, 0);
        d.is("no FAMILIES to bear FROST", s.bears(1), 9);
        s.later(0, 1);
        d.row("NESTS", s, 0);
        d.is("to be undone", s.undo(), 0);
        d.is("what was kept", s.again(0), true);
        StorksLet full = Due.town("r101@0;r201@0;r301@0;r401@0", "b1;b1;b1;b1;b1;b1");
        Due.addTown(full, "r501@0;q");
        d.is("4 ROOFS are not too many", full.ways(), 360);
        StorksLet wide = Due.town(FULL_ROOFS, "b1;b1;b1;b1;b1");
        Due.addTown(wide, "b1;q");
        d.is("5 BIRDS are not too many", wide.ways() > 0, true);
        StorksLet t = Due.town("r505@0;b9;b1/99;f1");
        t.day();
        Due.addTown(t, "b9;f0;q");
        d.is("the last FAMILY, the next BIRD", t.swear(0, 2), -1);
        d.is("a BIRD for it", t.choose(0, 9), 0);
        t.ring(0, 1, 99);
        Due.spring(t, "x0");
        d.is("no BIRD is any good", t.choose(0, 9), 1);
        t.undo();
        d.is("the safest of one", t.safest(0, 4), 0);
        d.row("the safest of one", t, 0, 1);
        t.swear(0, 0);
        Due.addTown(t, "b9;f0;q");
        t.safest(0, 4);
        d.row("with its NEST", t, 3, 5);
    }

    private static void townTooLong() {
        String lines = "r111w@0;r111@0;r111@0;r111@0;r111@0;r111@0;b1;b1;b1;b1;b1;b1;f0;f0;f0*1;f0*1";
        edges.edge(4, "76, if it has more and the first 76 could go on or end;", d -> {
            d.is("76 signs", Due.addTown(new StorksLet(), lines), 16);
            for (String more : new String[] {";", "x", ";f0", "0"}) {
                d.is("they could end, and have more: " + more, Due.addTown(new StorksLet(), lines + more), -77);
            }
            String longer = lines.replace("r111w@0", "r111@0").replace("f0;f0;", "f0*1;f0;");
            d.is("could go on: the 76th is *", longer.charAt(75), '*');
            d.is("could go on", Due.addTown(new StorksLet(), longer), -77);
            d.is("77 signs", longer.length(), 77);
            d.is("76 of them end too early", Due.addTown(new StorksLet(), longer.substring(0, 76)), -77);
            d.is("could not go on: wrong at 75", Due.addTown(new StorksLet(), lines.substring(0, 75) + "f;f0"), -76);
            d.is("could not go on: wrong at 0", Due.addTown(new StorksLet(), "x" + lines), -1);
        });
        edges.edge(Edges.TERMS, "THE TOWN is a text of at most 76 signs", d -> {
            StorksLet s = new StorksLet();
            Due.addTown(s, lines + ";");
            d.is("nothing comes of 77", s.count(0) + s.count(1) + s.count(2), 0);
            d.is("76", Due.addTown(s, lines), 16);
        });
    }

    private static void townWithoutRoom() {
        edges.edge(4, "the first sign of a LINE for which there is no room)", d -> {
            StorksLet s = fullTown();
            for (String line : new String[] {"r111@0", "b1", "f0"}) {
                d.is(line, Due.addTown(s, line), -1);
                d.is(line.charAt(0) + " alone", Due.addTown(s, line.substring(0, 1)), -1);
            }
            d.is("ROOFS, BIRDS, FAMILIES", s.count(0) * 100 + s.count(1) * 10 + s.count(2), 668);
            StorksLet t = Due.town("r111@0;r111@0;r111@0;r111@0;r111@0", FULL_BIRDS, "f0;f0;f0;f0;f0;f0;f0");
            d.is("for one ROOF and one FAMILY, but not for two", Due.addTown(t, "r111@0;f0;r111@0"), -11);
            d.is("nor for two FAMILIES", Due.addTown(t, "f0;r111@0;f0"), -11);
            d.is("for one each", Due.addTown(t, "f0;r111@0"), 2);
        });
    }

    private static void rule() {
        edges.edge(5, "THE TEXT is THE RULE (an empty one: none): 0.", d -> {
            StorksLet s = Due.town("r529@0;b5");
            d.is("7", Due.rule(s, "7"), 0);
            d.is("7", s.worth(0, 0), 7);
            d.is("none", s.rule(), 0);
            d.is("h+v-s", s.worth(0, 0), 12);
        });
        edges.edge(5, "-1 - p: as town() (40 signs).", d -> {
            beginnings(d, "-(h+12)*999<s", text -> Due.rule(new StorksLet(), text), 7, 9, 10, 11, 13);
            StorksLet s = Due.town("r529@0;b5");
            Due.rule(s, "7");
            String forty = "h*1+".repeat(9) + "1-12";
            d.is("41: could go on or end", Due.rule(s, forty + "+"), -41);
            d.is("41: could go on, not end", Due.rule(s, forty.substring(0, 39) + "*2"), -41);
            d.is("80: wrong at 39", Due.rule(s, forty.substring(0, 39) + ")" + forty), -40);
            d.is("40: end too early", Due.rule(s, forty.substring(0, 39) + "*"), -41);
            d.is("the rule stays", s.worth(0, 0), 7);
            d.is("40 signs", Due.rule(s, forty), 0);
            d.is("their value", s.worth(0, 0), 9 * 5 + 1 - 12);
        });
        edges.edge(5, "THE TEXT is THE RULE", d -> {
            StorksLet s = new StorksLet();
            for (String rule : new String[] {"7", "8", "1+", "9", "(", "2+3", ")"}) {
                Due.rule(s, rule);
            }
            Due.addTown(s, "r529@0;b5");
            d.is("told ahead of the first ROOF", s.worth(0, 0), 5);
            String[] rules = {"7", "1+", "8", "9", "((h)", "10", "11", "x", ""};
            int[] worths = {7, 7, 8, 9, 9, 10, 11, 11, 12};
            for (int i = 0; i < rules.length; i++) {
                Due.rule(s, rules[i]);
                s.later(0, i);
                d.is("after " + rules[i], s.worth(0, 0), worths[i]);
            }
        });
    }

    private static void frost() {
        edges.edge(6, "THE TEXT is FROST (an empty one: none): how many digits.", d -> {
            StorksLet s = Due.town("r505@0;b5");
            d.is("one", Due.frost(s, "9"), 1);
            s.day();
            d.nests("cold", s, -1);
            d.is("none", s.frost(), 0);
            s.day();
            d.nests("mild", s, 0);
        });
        edges.edge(Edges.TERMS, "FROST is a text of at most 40 signs", d -> {
            StorksLet s = Due.town("r505@0;b5");
            d.is("40", Due.frost(s, "0".repeat(39) + "9"), 40);
            s.days(39);
            d.nests("DAYS 0 .. 38", s, 0);
            s.day();
            d.nests("DAY 39", s, -1);
            s.day();
            d.nests("DAY 40: the first again", s, 0);
            d.is("41", Due.frost(s, "0".repeat(41)), -41);
            s.days(39);
            d.nests("DAY 79: as it was", s, -1);
        });
        edges.edge(6, "-1 - p: the sign at p can't stand there (40, if it has more and the first 40 could go on or "
            + "end).", d -> {
            StorksLet s = Due.town("r505@0;b5");
            d.is("a letter at 0", Due.frost(s, "a"), -1);
            d.is("ahead of 0", Due.frost(s, "0/"), -2);
            d.is("behind 9", Due.frost(s, "00:"), -3);
            d.is("41", Due.frost(s, "9".repeat(41)), -41);
            d.is("80", Due.frost(s, "9".repeat(80)), -41);
            d.is("41, the last is none", Due.frost(s, "9".repeat(40) + "x"), -41);
            d.is("41, the 40th is none", Due.frost(s, "9".repeat(39) + "x9"), -40);
            s.day();
            d.nests("FROST stays none", s, 0);
        });
    }

    private static void roof() {
        edges.edge(7, "3: 1 with a WHEEL, 4: LORD, 5: the BIRD whose NEST is there (NONE), 6: how many FAMILIES live "
            + "there.", d -> {
            StorksLet s = Due.town("r505w@3;r101@0;b5;f0;f0");
            s.day();
            int[] first = {5, 0, 5, 1, 3, 0, 2};
            int[] second = {1, 0, 1, 0, 0, -1, 0};
            for (int what = 0; what <= 6; what++) {
                d.is("ROOF 0, what " + what, s.roof(0, what), first[what]);
                d.is("ROOF 1, what " + what, s.roof(1, what), second[what]);
            }
        });
        edges.edge(7, "NoSuchElementException: none such, another what.", d -> {
            StorksLet s = Due.town("r505w@3;r101@0;b5;b5;b5;f0");
            for (int roof : Due.outside(0, 1)) {
                for (int what = -1; what <= 7; what++) {
                    int asked = what;
                    d.noSuch("ROOF " + roof + ", what " + what, () -> s.roof(roof, asked));
                }
            }
            for (int what : Due.outside(0, 6)) {
                d.noSuch("what " + what, () -> s.roof(0, what));
            }
            StorksLet t = fullTown();
            d.is("the sixth", t.roof(5, 6), 0);
            d.noSuch("a seventh", () -> t.roof(6, 0));
        });
    }

    private static void bird() {
        edges.edge(8, "2: its NEST (NONE), 3: WORTH of that (0 without)", d -> {
            StorksLet s = fullTown();
            for (int bird = 0; bird < 6; bird++) {
                d.is("NEST", s.bird(bird, 2), -1);
                d.is("WORTH", s.bird(bird, 3), 0);
            }
            s.day();
            d.is("the strongest has the best", s.bird(5, 2), 5);
            d.is("its WORTH", s.bird(5, 3), 13);
            Due.rule(s, "0-7");
            d.is("below 0", s.bird(5, 3), -7);
            Due.frost(s, "9");
            s.day();
            d.is("driven off", s.bird(5, 3), 0);
            StorksLet t = Due.town("r909@0;r909@0;r909@0;r909@0;b5;b5;b5");
            Due.rule(t, "(r=i+1)+(r=0)*(i=2)");
            t.day();
            d.nests("one on", t, 1, 2, 0);
            Due.rule(t, "r*10+i+1");
            d.is("BIRD 0 on ROOF 1", t.bird(0, 3), 11);
            d.is("BIRD 1 on ROOF 2", t.bird(1, 3), 22);
            d.is("BIRD 2 on ROOF 0", t.bird(2, 3), 3);
            Due.spring(t, "x2");
            d.is("ROOF 0 is free, BIRD 0 has a NEST", t.bird(0, 3), 11);
            d.is("BIRD 2 has none, ROOF 2 is taken", t.bird(2, 3), 0);
        });
        edges.edge(8, "4: how many FAMILIES belong to it", d -> {
            StorksLet s = fullTown();
            d.is("three", s.bird(5, 4), 3);
            d.is("one", s.bird(0, 4), 1);
            s.swear(5, 1);
            d.is("none", s.bird(0, 4), 0);
        });
        edges.edge(8, "(of all; of equal ones the first; NONE: no ROOFS)", d -> {
            StorksLet s = Due.town("r404@0;r505@0;r505@0;b9;b1");
            s.day();
            d.is("though another has its NEST there", s.bird(1, 5), 1);
            Due.rule(s, "r=2");
            d.is("the last", s.bird(1, 5), 2);
            Due.rule(s, "0");
            d.is("all are equal", s.bird(1, 5), 0);
            Due.rule(s, "-r");
            d.is("the least bad", s.bird(0, 5), 0);
            d.is("no ROOFS", Due.town("b9").bird(0, 5), -1);
        });
        edges.edge(8, "NoSuchElementException: likewise.", d -> {
            StorksLet s = Due.town("r505@0;r505@0;r505@0;b5;b5;f0");
            for (int bird : Due.outside(0, 1)) {
                for (int what = -1; what <= 6; what++) {
                    int asked = what;
                    d.noSuch("BIRD " + bird + ", what " + what, () -> s.bird(bird, asked));
                }
            }
            for (int what : Due.outside(0, 5)) {
                d.noSuch("what " + what, () -> s.bird(0, what));
            }
        });
    }

    private static void family() {
        edges.edge(9, "2: the ROOF where it lives (NONE), 3: MOVES, 4: FROGS it owes in all.", d -> {
            StorksLet s = Due.town("r505@0;r404@3;b5;f0*4");
            d.is("lives nowhere", s.family(0, 2), -1);
            d.is("no FROGS", s.family(0, 4), 0);
            s.day();
            s.build(0, 1, 9);
            s.day();
            int[] want = {0, 4, 1, 2, 8};
            for (int what = 0; what <= 4; what++) {
                d.is("what " + what, s.family(0, what), want[what]);
            }
        });
        edges.edge(9, "NoSuchElementException: likewise.", d -> {
            StorksLet s = Due.town("r505@0;r505@0;r505@0;b5;b5;b5;f0;f1");
            for (int family : Due.outside(0, 1)) {
                for (int what = -1; what <= 5; what++) {
                    int asked = what;
                    d.noSuch("FAMILY " + family + ", what " + what, () -> s.family(family, asked));
                }
            }
            for (int what : Due.outside(0, 4)) {
                d.noSuch("what " + what, () -> s.family(0, what));
            }
            StorksLet t = fullTown();
            d.is("the eighth", t.family(7, 1), 3);
            d.noSuch("a ninth", () -> t.family(8, 1));
        });
    }

    private static void worth() {
        edges.edge(10, "NoSuchElementException: none such.", d -> {
            StorksLet s = Due.town("r505@0;r404@0;b5;b6");
            for (int n : Due.outside(0, 1)) {
                d.noSuch("ROOF " + n, () -> s.worth(n, 0));
                d.noSuch("BIRD " + n, () -> s.worth(0, n));
                d.noSuch("both " + n, () -> s.worth(n, n));
            }
            d.is("the last ones", s.worth(1, 1), 8);
            StorksLet more = Due.town("r505@0;r404@0;r303@0;b5");
            d.is("more ROOFS than BIRDS", more.worth(2, 0), 6);
            d.noSuch("more ROOFS than BIRDS", () -> more.worth(0, 2));
            StorksLet fewer = Due.town("r505@0;b5;b6;b7");
            d.is("fewer", fewer.worth(0, 2), 10);
            d.noSuch("fewer", () -> fewer.worth(2, 0));
            StorksLet t = fullTown();
            Due.rule(t, "r*10+i");
            d.is("the sixth ones", t.worth(5, 5), 55);
        });
        edges.edge(10, "WORTH of a ROOF for a BIRD.", d -> {
            // A rule without o, and one with it: each BIRD has its own WORTH of the ROOF where its NEST is.
            StorksLet s = Due.town("r505@0;r505@0;b5;b5");
            s.day();
            Due.rule(s, "i*100+r*10+1");
            d.is("BIRD 0", s.worth(0, 0), 1);
            d.is("BIRD 1", s.worth(1, 1), 111);
            d.is("of its NEST", s.bird(1, 3), 111);
            Due.rule(s, "i*100+r*10+o");
            d.is("BIRD 1", s.worth(1, 1), 111);
            d.is("the other's", s.worth(0, 1), 100);
        });
    }

    private static void build() {
        edges.edge(11, "HEIGHT (what 0), SMOKE (1), VIEW (2; 0 .. 9), WHEEL (3; 0, 1), LORD (4; 0 .. 3) of a ROOF "
            + "becomes v: what it was.", d -> {
            StorksLet s = fullTown();
            int[] was = {9, 5, 9, 0, 1};
            int[] most = {9, 9, 9, 1, 3};
            for (int what = 0; what <= 4; what++) {
                d.is("most of " + what, s.build(5, what, most[what]), was[what]);
                d.is("least of " + what, s.build(5, what, 0), most[what]);
                d.is("the same of " + what, s.build(5, what, 0), 0);
                d.is("is", s.roof(5, what), 0);
                d.is("others stay", s.roof(4, what), new int[] {1, 4, 1, 0, 0}[what]);
            }
        });
        edges.edge(11, "Refused: others.", d -> {
            StorksLet s = Due.town("r505@0;r404@0;b5;b6");
            int[] most = {9, 9, 9, 1, 3};
            for (int what = 0; what <= 4; what++) {
                for (int v : Due.outside(0, most[what])) {
                    d.is("what " + what + ", v " + v, s.build(0, what, v), -1);
                }
                for (int roof : Due.outside(0, 1)) {
                    d.is("what " + what + ", ROOF " + roof, s.build(roof, what, 0), -1);
                }
            }
            for (int what : Due.outside(0, 4)) {
                d.is("what " + what, s.build(0, what, 0), -1);
            }
            d.is("nothing changes", s.roof(0, 0) * 1000 + s.roof(0, 1) * 100 + s.roof(0, 2) * 10 + s.roof(0, 3) + s.roof(0, 4), 5050);
        });
    }

    private static void ring() {
        edges.edge(12, "STRENGTH (what 0; 1 .. 9), ARRIVAL (1; 0 .. 99) of a BIRD becomes v: what it was.", d -> {
            StorksLet s = fullTown();
            d.is("9", s.ring(5, 0, 9), 6);
            d.is("1", s.ring(5, 0, 1), 9);
            d.is("99", s.ring(5, 1, 99), 0);
            d.is("0", s.ring(5, 1, 0), 99);
            d.is("STRENGTH", s.bird(5, 0), 1);
            d.is("ARRIVAL", s.bird(5, 1), 0);
        });
        edges.edge(12, "Refused: others.", d -> {
            StorksLet s = Due.town("r505@0;r404@0;r404@0;b5/7;b6/8");
            for (int v : Due.outside(1, 9)) {
                d.is("STRENGTH " + v, s.ring(0, 0, v), -1);
            }
            for (int v : Due.outside(0, 99)) {
                d.is("ARRIVAL " + v, s.ring(0, 1, v), -1);
            }
            for (int what : Due.outside(0, 1)) {
                d.is("what " + what, s.ring(0, what, 5), -1);
            }
            for (int bird : Due.outside(0, 1)) {
                d.is("BIRD " + bird, s.ring(bird, 0, 5), -1);
                d.is("BIRD " + bird, s.ring(bird, 1, 5), -1);
            }
            d.is("nothing changes", s.bird(0, 0) * 10 + s.bird(0, 1), 57);
        });
    }

    private static void swear() {
        edges.edge(13, "A FAMILY belongs to a BIRD from now on: to which ahead.", d -> {
            StorksLet s = fullTown();
            d.is("the last of each", s.swear(7, 5), 5);
            d.is("to the first", s.swear(7, 0), 5);
            d.is("back", s.swear(7, 5), 0);
        });
        edges.edge(13, "Refused: none such.", d -> {
            StorksLet s = Due.town("r505@0;r404@0;r404@0;b5;b6;f1;f1");
            for (int n : Due.outside(0, 1)) {
                d.is("FAMILY " + n, s.swear(n, 0), -1);
                d.is("BIRD " + n, s.swear(0, n), -1);
            }
            d.is("nothing changes", s.family(0, 0), 1);
        });
    }

    private static void sheet() {
        edges.edge(14, "(of bytes, shorts the lowest bits, with their sign; put to 0 .. 9)", d -> {
            StorksLet s = Due.town("r505@0;r505@0");
            int[][] asked = {{0, 127, 9}, {0, 128, 0}, {0, 255, 0}, {0, 256, 0}, {0, 263, 7}, {0, -1, 0}, {0, -249, 7}, {0, 0x7FFFFF05, 5},
                {1, 32767, 9}, {1, 32768, 0}, {1, 65535, 0}, {1, 65543, 7}, {1, 256, 9}, {1, -65529, 7}, {1, 128, 9},
                {2, 65543, 9}, {2, Integer.MAX_VALUE, 9}, {2, Integer.MIN_VALUE, 0}, {2, 10, 9}, {2, 9, 9}, {2, 0, 0}, {2, -1, 0}};
            for (int[] a : asked) {
                d.is("kind " + a[0] + ", " + a[1], s.sheet(a[0], 1, a[1], 0), a[2]);
                d.is("VIEW", s.roof(0, 2), a[2]);
            }
        });
        edges.edge(14, "n entries f, f + step, ..", d -> {
            StorksLet s = fullTown();
            d.is("6 entries", s.sheet(2, 6, 8, -2), 8 + 6 + 4 + 2);
            d.is("the fifth", s.roof(4, 2), 0);
            d.is("an int wraps: the second is the least of all", s.sheet(2, 2, Integer.MAX_VALUE, 1), 9);
            d.is("and the other way", s.sheet(2, 2, Integer.MIN_VALUE, -1), 9);
            d.is("a step that wraps: 1, and twice it 2", s.sheet(2, 3, 0, Integer.MIN_VALUE), 0);
            d.is("bytes of a step of 257", s.sheet(0, 6, 1, 257), 1 + 2 + 3 + 4 + 5 + 6);
        });
        edges.edge(14, "those behind it have 0: the sum of all that there are (entries beyond them are left aside).", d -> {
            StorksLet s = Due.town("r505@0;r505@0;r505@0");
            d.is("two entries", s.sheet(2, 2, 3, 1), 7);
            d.is("VIEW 1", s.roof(1, 2), 4);
            d.is("VIEW 2", s.roof(2, 2), 0);
            d.is("six entries", s.sheet(2, 6, 3, 1), 12);
            d.is("no entries", s.sheet(2, 0, 3, 1), 0);
            d.is("all 0", s.roof(0, 2) + s.roof(1, 2) + s.roof(2, 2), 0);
            d.is("no ROOFS", new StorksLet().sheet(1, 6, 3, 1), 0);
        });
    }

    private static void sheetKinds() {
        edges.edge(14, "or a missing one (3): those behind it have 0", d -> {
            StorksLet s = Due.town("r505@0;r507@0");
            d.is("with entries told", s.sheet(3, 2, 9, 0), -3);
            d.is("all are behind it", s.roof(0, 2) + s.roof(1, 2), 0);
        });
        edges.edge(14, "-2: n below 0 (of kinds 0 .. 2; nothing changes); -3: missing (all 0).", d -> {
            StorksLet s = Due.town("r505@0;r507@0");
            for (int kind = 0; kind <= 2; kind++) {
                d.is("n -1", s.sheet(kind, -1, 3, 1), -2);
                d.is("the least n", s.sheet(kind, Integer.MIN_VALUE, 3, 1), -2);
            }
            d.is("nothing changes", s.roof(0, 2) * 10 + s.roof(1, 2), 57);
            d.is("missing", s.sheet(3, 2, 3, 1), -3);
            d.is("all 0", s.roof(0, 2) + s.roof(1, 2), 0);
            s.sheet(2, 2, 3, 1);
            d.is("missing, n below 0", s.sheet(3, -1, 3, 1), -3);
            d.is("all 0", s.roof(0, 2) + s.roof(1, 2), 0);
            d.is("missing, no ROOFS", new StorksLet().sheet(3, 0, 0, 0), -3);
        });
        edges.edge(14, "NONE: another kind, n above 6 (these first).", d -> {
            StorksLet s = Due.town("r505@0;r507@0");
            for (int kind : Due.outside(0, 3)) {
                d.is("kind " + kind, s.sheet(kind, 2, 3, 1), -1);
                d.is("and n below 0", s.sheet(kind, -1, 3, 1), -1);
            }
            for (int kind = 0; kind <= 3; kind++) {
                d.is("n 7, kind " + kind, s.sheet(kind, 7, 3, 1), -1);
                d.is("the most n, kind " + kind, s.sheet(kind, Integer.MAX_VALUE, 3, 1), -1);
            }
            d.is("nothing changes", s.roof(0, 2) * 10 + s.roof(1, 2), 57);
            d.is("6 is not above", s.sheet(3, 6, 3, 1), -3);
        });
    }
}
