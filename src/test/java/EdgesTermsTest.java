import java.io.IOException;

/** The boundaries that the Terms name; TwinsTest has each refused call, and all that it must leave as it is. */
public final class EdgesTermsTest {
    private static final String ONE_OF_EACH = "r505@0;b5;f0";
    private static Edges edges;

    public static void main(String[] args) throws IOException {
        edges = new Edges("EdgesTermsTest");
        howMany();
        numbersOfThem();
        textOfTown();
        signsOfRule();
        thingsOfRule();
        worthAsInts();
        frostByDays();
        frostTaken();
        nestsTaken();
        familiesMove();
        frogsOwed();
        rowsAndFractions();
        manyCalls();
        textsRead();
        noneFirst();
        rowStays();
        edges.finish(Edges.TERMS, Edges.TERMS);
    }

    private static void terms(String words, Edges.Check check) {
        edges.edge(Edges.TERMS, words, check);
    }

    /** WORTH of ROOF 0 for BIRD 0 by a rule. */
    private static int worthBy(StorksLet s, String rule) {
        int answer = Due.rule(s, rule);
        return answer == 0 ? s.worth(0, 0) : -1000 + answer;
    }

    private static void values(Due d, StorksLet s, String[] rules, int[] worths) {
        for (int i = 0; i < rules.length; i++) {
            d.is(rules[i], worthBy(s, rules[i]), worths[i]);
        }
    }

    private static void howMany() {
        terms("ROOFS 0 .. (at most 6)", d -> {
            StorksLet s = Due.town("r111@0;r111@0;r111@0;r111@0;r111@0;r911@0");
            d.is("six", s.count(0), 6);
            d.is("the sixth", s.roof(5, 0), 9);
            d.is("a seventh", Due.addTown(s, "r111@0"), -1);
            d.noSuch("a seventh", () -> s.roof(6, 0));
            d.is("seven at once", Due.addTown(new StorksLet(), "r111@0;r111@0;r111@0;r111@0;r111@0;r111@0;r111@0"), -43);
        });
        terms("BIRDS 0 .. (at most 6)", d -> {
            StorksLet s = Due.town("b1;b1;b1;b1;b1;b9");
            d.is("six", s.count(1), 6);
            d.is("the sixth", s.bird(5, 0), 9);
            d.is("a seventh", Due.addTown(s, "b1"), -1);
            d.noSuch("a seventh", () -> s.bird(6, 0));
        });
        terms("FAMILIES 0 .. (at most 8)", d -> {
            StorksLet s = Due.town("b1", "f0;f0;f0;f0;f0;f0;f0;f0*9");
            d.is("eight", s.count(2), 8);
            d.is("the eighth", s.family(7, 1), 9);
            d.is("a ninth", Due.addTown(s, "f0"), -1);
            d.noSuch("a ninth", () -> s.family(8, 0));
        });
    }

    private static void numbersOfThem() {
        terms("HEIGHT, SMOKE, VIEW 0 .. 9", d -> {
            StorksLet s = Due.town("r000@0;r999@0;r090@0");
            for (int what = 0; what < 3; what++) {
                d.is("0", s.roof(0, what), 0);
                d.is("9", s.roof(1, what), 9);
            }
            d.is("SMOKE alone", s.roof(2, 1), 9);
        });
        terms("a LORD 0 .. 3", d -> {
            StorksLet s = Due.town("r111@0;r111@3");
            d.is("0", s.roof(0, 4), 0);
            d.is("3", s.roof(1, 4), 3);
            d.is("4", Due.addTown(s, "r111@4"), -6);
        });
        terms("STRENGTH 1 .. 9, ARRIVAL 0 .. 99", d -> {
            StorksLet s = Due.town("b1/0;b9/99");
            d.is("1", s.bird(0, 0), 1);
            d.is("0", s.bird(0, 1), 0);
            d.is("9", s.bird(1, 0), 9);
            d.is("99", s.bird(1, 1), 99);
        });
        terms("(the DAY from which on it is there)", d -> {
            StorksLet s = Due.town("r505@0;b5/60");
            s.days(60);
            d.nests("DAYS 0 .. 59", s, -1);
            s.day();
            d.nests("DAY 60", s, 0);
        });
        terms("at first none; one BIRD on a ROOF at most", d -> {
            StorksLet s = Due.town("r505@0;b5;b5;b6");
            d.nests("at first", s, -1, -1, -1);
            d.is("at first", s.roof(0, 5), -1);
            s.days(9);
            d.nests("one of three", s, -1, -1, 0);
            d.is("one of three", s.roof(0, 5), 2);
        });
        terms("RENT 0 .. 9 (at first 1), the ROOF where it lives (at first none), MOVES", d -> {
            StorksLet s = Due.town("b5;f0;f0*0;f0*9");
            d.is("at first", s.family(0, 1), 1);
            d.is("0", s.family(1, 1), 0);
            d.is("9", s.family(2, 1), 9);
            d.is("lives", s.family(0, 2), -1);
            d.is("MOVES", s.family(0, 3), 0);
        });
        terms("DAY is 1 more (at first 0)", d -> {
            StorksLet s = new StorksLet();
            d.is("at first", s.count(3), 0);
            s.day();
            d.is("then", s.count(3), 1);
        });
    }

    private static void textOfTown() {
        terms("what they tell comes behind what there is", d -> {
            StorksLet s = Due.town("r100@0;b1", "b2;r200@0");
            d.is("ROOF 0", s.roof(0, 0), 1);
            d.is("ROOF 1", s.roof(1, 0), 2);
            d.is("BIRD 0", s.bird(0, 0), 1);
            d.is("BIRD 1", s.bird(1, 0), 2);
            d.is("its BIRDS can have FAMILIES", Due.addTown(s, "b3;f2;f0"), 3);
            d.is("they belong to it", s.bird(2, 4), 1);
            StorksLet t = Due.town("r505@1;r505@0;r505@0;b1;b1;f0;f1;f1*3");
            t.days(2);
            Due.addTown(t, "f1;f0;b1");
            int[][] owed = {{0, 2}, {2, 0}, {6, 0}, {0, 0}, {0, 0}};
            for (int f = 0; f < owed.length; f++) {
                d.is("MOVES of FAMILY " + f, t.family(f, 3), f < 3 ? 1 : 0);
                d.is("FROGS of FAMILY " + f + " for LORD 0", t.owes(f, 0), owed[f][0]);
                d.is("FROGS of FAMILY " + f + " for LORD 1", t.owes(f, 1), owed[f][1]);
            }
            d.nests("NESTS", t, 0, 1, -1);
        });
        terms("perhaps w (a WHEEL)", d -> {
            StorksLet s = Due.town("r111w@0;r111@0");
            d.is("with", s.roof(0, 3), 1);
            d.is("without", s.roof(1, 3), 0);
            d.is("another letter", Due.addTown(s, "r111v@0"), -5);
        });
        terms("b, STRENGTH (a digit, not 0)", d -> {
            d.is("0", Due.addTown(new StorksLet(), "b0"), -2);
            d.is("two digits", Due.addTown(new StorksLet(), "b10"), -3);
        });
        terms("(1 or 2 digits; else 0)", d -> {
            StorksLet s = Due.town("b1;b1/7;b1/07;b1/70");
            int[] arrivals = {0, 7, 7, 70};
            for (int b = 0; b < arrivals.length; b++) {
                d.is("BIRD " + b, s.bird(b, 1), arrivals[b]);
            }
            d.is("no digit", Due.addTown(s, "b1/;b1"), -4);
            d.is("3 digits", Due.addTown(s, "b1/100"), -6);
        });
        terms("f, a BIRD that is there (a digit)", d -> {
            d.is("no BIRDS", Due.addTown(new StorksLet(), "f0"), -2);
            d.is("one that comes later", Due.addTown(new StorksLet(), "b1;f1;b1"), -5);
            d.is("the last there is", Due.addTown(new StorksLet(), "b1;b1;f1"), 3);
            d.is("one more", Due.addTown(new StorksLet(), "b1;b1;f2"), -8);
        });
        terms("perhaps * and RENT (a digit)", d -> {
            d.is("no digit", Due.addTown(new StorksLet(), "b1;f0*"), -7);
            d.is("two digits", Due.addTown(new StorksLet(), "b1;f0*10"), -8);
        });
    }

    private static void signsOfRule() {
        StorksLet s = Due.town(ONE_OF_EACH);
        terms("(two; 1 or 0; not one behind the other)", d -> {
            values(d, s, new String[] {"1<2", "2<1", "1<1", "2>1", "1>2", "1>1", "1=1", "1=2", "1+1<2", "2*3>5", "3=1+2", "(1<2)=1",
                "3>(2>1)", "(1<2)+(1<2)"}, new int[] {1, 0, 0, 1, 0, 0, 1, 0, 0, 1, 1, 1, 1, 2});
            d.is("three things", Due.rule(s, "1<2<3"), -4);
            d.is("in brackets, too", Due.rule(s, "7+(1=1+1>1)"), -9);
            d.is("round brackets, too", Due.rule(s, "1<(2<3)<4"), -8);
            d.is("behind brackets with one", worthBy(s, "(2<3)<4"), 1);
            d.is("one thing", Due.rule(s, "<2"), -1);
        });
        terms("then + - (from the left)", d -> {
            values(d, s, new String[] {"9-4-3", "9-4+3", "9+4-3-1", "9-(4-3)", "2+3*4", "2*3+4"}, new int[] {2, 8, 9, 8, 14, 10});
        });
        terms("then * / (from the left; by 0: 0; cut to 0)", d -> {
            values(d, s, new String[] {"8/4*2", "7*3/2", "7/2*2", "8/(4*2)", "7/0", "0/0", "9/(3-3)*5+1", "7/2", "-7/2", "7/-2", "-7/-2",
                "(0-7)/2", "1/2", "-1/2"}, new int[] {4, 10, 6, 1, 0, 0, 1, 3, -3, -3, 3, -3, 0, 0});
        });
        terms("then - ahead of a thing (any many)", d -> {
            values(d, s, new String[] {"-5", "--5", "---5", "2--3", "2*-3", "-2*-3", "9/-2", "-(2+3)", "--h", "3-----2", "1<-1", "-1<1"},
                new int[] {-5, 5, -5, 5, -6, 6, -4, -5, 5, 1, 0, 1});
            d.is("39 of them", worthBy(s, "-".repeat(39) + "5"), -5);
            d.is("of no thing", Due.rule(s, "--"), -3);
        });
        terms("a NUMBER of 1 to 3 digits", d -> {
            values(d, s, new String[] {"7", "07", "007", "70", "700", "999"}, new int[] {7, 7, 7, 70, 700, 999});
            d.is("4 digits", Due.rule(s, "1000"), -4);
            d.is("4 digits, 0", Due.rule(s, "0000"), -4);
            d.is("none", Due.rule(s, "()"), -2);
        });
        terms("an EXPRESSION in ( ) (at most 4 in one another)", d -> {
            values(d, s, new String[] {"((((7))))", "(1)+(1)+(1)+(1)+(1)", "(((1)+(((2)))))"}, new int[] {7, 5, -1009});
            d.is("5 in one another", Due.rule(s, "(((((7)))))"), -5);
            d.is("4 and again 4", worthBy(s, "((((1))))*((((7))))"), 7);
            d.is("closed too often", Due.rule(s, "((7)))"), -6);
            d.is("closed too seldom", Due.rule(s, "((7)"), -5);
        });
        terms("THE RULE is a text of at most 40 signs (at first none: h+v-s)", d -> {
            StorksLet t = Due.town("r735@0;b5");
            d.is("at first", t.worth(0, 0), 9);
            d.is("40 signs", worthBy(t, "+1".repeat(19).substring(1) + "+12"), 31);
            d.is("41 signs", Due.rule(t, "+1".repeat(19).substring(1) + "+123"), -41);
        });
    }

    private static void thingsOfRule() {
        StorksLet s = Due.town("r111@0;r739w@0;b2;b8;f1;f1");
        s.days(5);
        terms("h HEIGHT, s SMOKE, v VIEW, w 1 if it has a WHEEL, r the ROOF's number, i the BIRD's number, k its STRENGTH, "
            + "o 1 if its NEST is there now, d DAY, f how many FAMILIES belong to the BIRD", d -> {
                d.nests("the strong one has ROOF 1", s, 0, 1);
                String letters = "hsvwrikodf";
                int[] own = {7, 3, 9, 1, 1, 1, 8, 1, 5, 2};
                int[] other = {1, 1, 1, 0, 0, 0, 2, 1, 5, 0};
                int[] where = {7, 3, 9, 1, 1, 0, 2, 0, 5, 0};
                for (int i = 0; i < letters.length(); i++) {
                    Due.rule(s, letters.substring(i, i + 1));
                    d.is(letters.charAt(i) + ", ROOF 1, BIRD 1", s.worth(1, 1), own[i]);
                    d.is(letters.charAt(i) + ", ROOF 0, BIRD 0", s.worth(0, 0), other[i]);
                    d.is(letters.charAt(i) + ", ROOF 1, BIRD 0", s.worth(1, 0), where[i]);
                }
                d.is("no other letter", Due.rule(s, "a"), -1);
                d.is("no large one", Due.rule(s, "H"), -1);
            });
    }

    private static void worthAsInts() {
        StorksLet s = Due.town(ONE_OF_EACH);
        terms("As ints, put to -999 .. 999: WORTH", d -> {
            values(d, s, new String[] {"998", "999", "999+1", "-998", "-999", "-999-1", "999*999", "-999*999"},
                new int[] {998, 999, 999, -998, -999, -999, 999, -999});
            // 2 to the power of 31 is the least int, 2 to the power of 32 is 0.
            values(d, s, new String[] {"256*256*256*127", "256*256*256*128", "256*256*256*128-1", "256*256*256*256", "256*256*256*256+7",
                "-(256*256*256*128)", "256*256*256*128/-1", "256*256*256*128<0", "256*256*256*128/256/256/256"},
                new int[] {999, -999, 999, 0, 7, -999, -999, 1, -128});
        });
    }

    private static void frostByDays() {
        terms("(at first none: 0 always)", d -> {
            StorksLet s = Due.town("r505@0;b1");
            s.days(60);
            d.nests("the weakest stays", s, 0);
        });
        terms("one behind the other and again from the first on, a digit: in DAY d that at d % (how many)", d -> {
            StorksLet s = Due.town("r505@0;b5");
            Due.frost(s, "590");
            int[] nests = {-1, -1, 0, -1, -1, 0, -1};
            for (int day = 0; day < nests.length; day++) {
                s.day();
                d.nests("DAY " + day, s, nests[day]);
            }
            Due.frost(s, "05");
            s.day();
            d.nests("told anew in DAY 7, an odd one", s, -1);
            s.day();
            d.nests("DAY 8", s, 0);
            Due.frost(s, "");
            s.day();
            d.nests("none again", s, 0);
        });
    }

    private static void frostTaken() {
        terms("(1) BIRDS that have arrived (ARRIVAL is DAY or less)", d -> {
            StorksLet s = Due.town("r505@0;r505@0;b5;b5");
            s.day();
            s.ring(0, 1, 1);
            s.ring(1, 1, 2);
            Due.frost(s, "9");
            s.day();
            d.nests("DAY 1: the one of DAY 2 keeps its NEST", s, -1, 1);
            s.day();
            d.nests("DAY 2", s, -1, -1);
        });
        terms("whose STRENGTH is FROST or less leave their NEST, and look for none in this DAY", d -> {
            StorksLet s = Due.town("r505@0;r505@0;r505@0;b5;b4;b3");
            s.day();
            Due.frost(s, "4");
            d.is("two leave", s.day(), 2);
            d.nests("3 and 4 leave, 5 stays", s, 0, -1, -1);
            d.is("they look for none", s.day(), 0);
            Due.frost(s, "3");
            d.is("4 comes back", s.day(), 1);
            d.nests("4 comes back", s, 0, 1, -1);
        });
        terms("(1) BIRDS that have arrived", d -> {
            StorksLet s = Due.town("r505@0;r101@0;b4;b5;f0");
            s.ring(1, 1, 1);
            s.day();
            Due.frost(s, "4");
            s.day();
            d.nests("they leave ahead of all that look", s, -1, 0);
            d.is("its FAMILY lives nowhere", s.family(0, 2), -1);
        });
    }

    private static void nestsTaken() {
        terms("(2) Each other BIRD that has arrived, by numbers", d -> {
            StorksLet s = Due.town("r505@0;r404@0;b5;b5;b5/1");
            s.day();
            d.nests("the first has the best, one is not there", s, 0, 1, -1);
            s.ring(2, 0, 6);
            s.day();
            d.nests("one that is driven off by a later number looks no more in this DAY", s, -1, 1, 0);
            s.day();
            d.nests("and can't drive off its equal", s, -1, 1, 0);
            s.ring(1, 0, 7);
            s.day();
            d.nests("one that is driven off by an earlier number looks in the same DAY", s, -1, 0, 1);
        });
        terms("of ROOFS without a NEST, and those with one of a BIRD of less STRENGTH", d -> {
            StorksLet s = Due.town("r505@0;b5");
            s.day();
            Due.addTown(s, "b4;b5;b6");
            s.ring(3, 1, 2);
            s.day();
            d.nests("less and equal can't", s, 0, -1, -1, -1);
            s.day();
            d.nests("more can", s, -1, -1, -1, 0);
        });
        terms("the one with the most WORTH (of equal ones the first)", d -> {
            StorksLet s = Due.town("r504@0;r505@0;r505@0;b5");
            s.day();
            d.nests("the first of the best", s, 1);
        });
        terms("if WORTH is more than that of the one it has (without one: more than 0)", d -> {
            StorksLet s = Due.town("r000@0;r000@0;b5");
            s.day();
            d.nests("0 is not more than 0", s, -1);
            s.build(1, 0, 1);
            s.day();
            d.nests("1 is", s, 1);
            s.build(0, 0, 1);
            s.day();
            d.nests("1 is not more than 1", s, 1);
            s.build(0, 0, 2);
            s.day();
            d.nests("2 is", s, 0);
            s.build(0, 1, 9);
            s.build(1, 1, 9);
            s.day();
            d.nests("-7 and -8: it has one, and stays", s, 0);
            s.build(1, 2, 2);
            s.day();
            d.nests("-6 is more than -7", s, 1);
        });
        terms("a BIRD that had it has none then", d -> {
            StorksLet s = Due.town("r505@0;b5;b6/1");
            s.day();
            d.is("two have another", s.day(), 2);
            d.nests("driven off", s, -1, 0);
        });
    }

    private static void familiesMove() {
        terms("(3) Each FAMILY lives where its BIRD has its NEST then (else nowhere)", d -> {
            StorksLet s = Due.town("r505@0;b5;b5;f0;f0;f1");
            s.day();
            d.is("FAMILY 0", s.family(0, 2), 0);
            d.is("FAMILY 1", s.family(1, 2), 0);
            d.is("FAMILY 2", s.family(2, 2), -1);
            Due.frost(s, "5");
            s.day();
            d.is("nowhere", s.family(0, 2), -1);
        });
        terms("MOVES is one more, if that is another ROOF than ahead, and it lives on one", d -> {
            StorksLet s = Due.town("r505@0;r102@0;b5;f0");
            s.day();
            d.is("from nowhere", s.family(0, 3), 1);
            s.day();
            d.is("it stays", s.family(0, 3), 1);
            s.build(1, 0, 9);
            s.day();
            d.is("to another", s.family(0, 3), 2);
            Due.frost(s, "9");
            s.day();
            d.is("to nowhere", s.family(0, 3), 2);
            s.day();
            d.is("nowhere still", s.family(0, 3), 2);
            Due.frost(s, "");
            s.day();
            d.is("where it was ahead of nowhere", s.family(0, 3), 3);
            Due.addTown(s, "b5");
            s.day();
            s.swear(0, 1);
            s.day();
            d.is("to another BIRD's", s.family(0, 3), 4);
        });
    }

    private static void frogsOwed() {
        terms("it owes the LORD of that ROOF RENT more FROGS", d -> {
            StorksLet s = Due.town("r505@2;b5;b5;f0*9;f0*0;f1*5");
            s.days(2);
            d.is("twice 9", s.owes(0, 2), 18);
            d.is("no RENT", s.owes(1, 2), 0);
            d.is("one that lives nowhere", s.owes(2, 2), 0);
            d.is("another LORD", s.owes(0, 0), 0);
        });
        terms("(9999 at most each; FROGS that come to be owed are counted by RENT all the same)", d -> {
            StorksLet s = Due.town("r505@1;b5;f0*9;f0*8");
            for (int i = 0; i < 18; i++) {
                s.days(60);
            }
            s.days(31);
            d.is("1111 times 9", s.owes(0, 1), 9999);
            d.is("1111 times 8", s.owes(1, 1), 8888);
            s.days(1);
            d.is("at most", s.owes(0, 1), 9999);
            d.row("counted all the same", s, 17, 0);
            s.build(0, 4, 2);
            s.days(1);
            d.is("each LORD of its own", s.owes(0, 2), 9);
            d.is("in all", s.family(0, 4), 10008);
            d.is("of all", s.count(7), 10008 + 8896 + 8);
            d.is("to come", s.income(1, 5), 0);
            s.build(0, 4, 1);
            d.is("to come", s.income(1, 5), 85);
        });
    }

    private static void rowsAndFractions() {
        terms("Rows of numbers are compared from the first on", d -> {
            StorksLet s = Due.town("r505@0;r505@0;b5;b5;f0;f1");
            d.is("two ways: 0 1 and 1 0", s.ways(), 2);
            d.row("the least", s, 0, 1);
            s.kindest();
            d.row("the least", s, 0, 1);
        });
        terms("NESTS are told as a ROOF for each BIRD (NONE: none)", d -> {
            StorksLet s = Due.town("r505@0;b5;b6");
            s.later(0, 1);
            d.row("one each", s, -1, 0);
        });
        terms("Fractions are told in lowest terms, upper and lower number", d -> {
            StorksLet s = Due.town("r505@0;b5");
            s.day();
            int[][] fractions = {{1, 1}, {9, 10}, {4, 5}, {7, 10}, {3, 5}, {1, 2}, {2, 5}, {3, 10}, {1, 5}, {1, 10}, {0, 1}};
            for (int t = 0; t <= 10; t++) {
                s.chance(0, 0, t);
                d.row(t + " tenths", s, fractions[t]);
            }
        });
    }

    private static void manyCalls() {
        edges.edge(Edges.WHAT_IT_IS, "An object is used for at most 512 calls after it has been made", d -> {
            StorksLet s = new StorksLet();
            for (int i = 0; i < 511; i++) {
                s.day();
            }
            d.is("the 512th call", s.count(3), 511);
            StorksLet t = Due.town("r505@0;b5;f0*9");
            Due.rule(t, "d");
            for (int i = 0; i < 490; i++) {
                t.days(60);
            }
            d.is("DAY", t.count(3), 29400);
            d.is("WORTH is put to 999", t.worth(0, 0), 999);
            d.is("FROGS", t.owes(0, 0), 9999);
            d.is("MOVES", t.count(6), 1);
            d.is("what can be undone", t.count(8), 12);
        });
    }

    private static void textsRead() {
        terms("Refused calls answer NONE, or false, and change nothing but THE TEXT, which a call that reads it empties.", d -> {
            StorksLet s = Due.town(ONE_OF_EACH);
            String[] calls = {"town", "rule", "frost", "spring", "aim"};
            for (String call : calls) {
                Due.tell(s, "?");
                d.is("refused: " + call, read(s, call), -1);
                d.is("empties: " + call, s.count(11), 0);
                Due.tell(s, call.equals("town") ? "b1" : call.equals("spring") ? "d" : call.equals("aim") ? "0-" : "1");
                d.is("not refused: " + call, read(s, call) >= 0, true);
                d.is("empties: " + call, s.count(11), 0);
            }
            Due.tell(s, "b1;b");
            s.build(9, 9, 9);
            s.days(61);
            s.end(9);
            s.day();
            s.undo();
            d.is("others leave it", s.count(11), 4);
            d.is("signs come behind it", s.sign(0x31303030), 8);
            s.end(5);
            d.is("and it is read as it was", s.town(), 2);
        });
    }

    private static int read(StorksLet s, String call) {
        switch (call) {
            case "town":
                return s.town();
            case "rule":
                return s.rule();
            case "frost":
                return s.frost();
            case "spring":
                return s.spring();
            default:
                return s.aim();
        }
    }

    private static void noneFirst() {
        terms("NONE is asked ahead of other answers below 0 (what a TEXT tells wrongly aside).", d -> {
            StorksLet s = Due.town(ONE_OF_EACH);
            d.is("another kind, n below 0", s.sheet(4, -1, 1, 1), -1);
            d.is("n above 6, missing", s.sheet(3, 7, 1, 1), -1);
            d.is("1000 FROGS, but it owes none", s.pay(0, 0, 1000), -1);
            d.is("no such LORD, and it owes none", s.pay(0, 4, 1), -1);
            d.is("61 DAYS, but no ROOF", s.wheel(1, 61), -1);
            d.is("no DAYS, but no NEST", s.drive(0, 0), -1);
            d.is("no such BIRD", s.drive(1, 1), -1);
            d.is("no such BIRD", s.homeless(1), -1);
            d.is("no such ROOF, and it would win none", s.win(0, 1, 1), -1);
            d.is("31 DAYS, but no FAMILIES", new StorksLet().safest(31, 1), -1);
            d.is("11 tenths, but no FAMILIES", new StorksLet().safest(1, 11), -1);
            d.is("a sign that can't stand at 0", Due.addTown(s, "x"), -1);
            d.is("a sign that can't stand at 1", Due.addTown(s, "bx"), -2);
        });
    }

    private static void rowStays() {
        terms("The ROW stays with NONE and with each number below 0 that tells why there is no answer (-2, -3 ..);", d -> {
            StorksLet s = Due.town("r505@0;r505@0;b5/60;f0");
            s.income(0, 0);
            int[] answers = {s.days(61), s.later(0, 61), s.homeless(0), s.bears(1), s.wheel(1, 1), s.drive(0, 1), s.win(0, 0, 1),
                s.pay(0, 0, 1), s.fewest(), s.gently(), s.courts(0, 0), s.choose(0, 0), s.moves(0, 61), s.lord(4), s.chance(0, 31, 0)};
            int[] want = {-1, -2, -3, -2, -2, -3, -2, -2, -4, -4, -1, -1, -1, -1, -1};
            for (int i = 0; i < want.length; i++) {
                d.is("call " + i, answers[i], want[i]);
            }
            Due.rule(s, "10-o*20");
            d.is("never at rest", s.kindest(), -2);
            s.ring(0, 1, 0);
            d.is("never calm", s.calm(), -2);
            d.row("the ROW stays", s, 0, 0, 0, 0);
            d.is("no FAMILIES", new StorksLet().safest(0, 0), -2);
        });
        terms("a number below 0 that is meant as such (below 0, too) comes with its ROW.", d -> {
            StorksLet s = Due.town("r505@0;b5/1;b5/2");
            s.income(0, 0);
            d.is("no NEST", s.later(0, 1), -1);
            d.row("no NEST", s, -1, -1);
            d.is("no NEST in 60 DAYS", s.later(1, 60), -1);
            d.row("no NEST in 60 DAYS", s, 0, -1);
        });
    }
}
