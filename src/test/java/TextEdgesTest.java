/** The edges of a text: each sentence of 'Terms' that names one, by a test of its own. */
public final class TextEdgesTest {
    private static final String WAVE = "wave 1 0 0 0 0 0;";
    private static final String SIX_PARTIES =
        "party a 1 1;party b 1 1;party c 1 1;party d 1 1;party e 1 1;party f 1 1;";
    private static final String IF = "if 1<2 then 3 else ";
    private static final String[] WORDS = {"wave", "party", "needs", "fares", "dares", "shifts", "seed", "if",
        "then", "else", "at", "odds", "heavy", "nerve", "left", "year", "which", "buoys", "goes"};
    private static final String SIGNS = ";=+-*/<()";

    public static void main(String[] args) {
        twoThousandBytes();
        blanks();
        longestTokens();
        names();
        noWordIsAName();
        ints();
        signs();
        noOtherToken();
        grammar();
        wavesAndParties();
        oddsOfAWave();
        lawsIfNotTold();
        seeds();
        firstFault();
        syntax();
        room();
        twiceAndWrong();
        faultChangesNothing();
        newTextBeginsAnew();
        Edge.end("TextEdgesTest");
    }

    private static void read(String text, int fault, int place) {
        GuessFerry x = new GuessFerry();
        Edge.feed(x, text);
        Edge.due("read() of " + text, x.read(), fault);
        Edge.due("place() of " + text, x.place(), place);
    }

    private static void fine(String text) {
        read(text, 0, -1);
    }

    private static void twoThousandBytes() {
        Edge.says("A TEXT has 2,000 bytes at most.");
        fine(" ".repeat(1993) + "seed 1;");
        fine("seed 1;" + "\n".repeat(1993));
        read(" ".repeat(1999) + "?", 1, 1999);
        read(" ".repeat(1994) + "seed 1", 1, 2000);
        GuessFerry x = new GuessFerry();
        Edge.feed(x, " ".repeat(2000));
        Edge.due("feed() behind 2000 bytes", x.feed(0, 0, 0, 0, 0), -1);
        Edge.due("read() of 2000 blanks", x.read(), 0);
    }

    private static void blanks() {
        Edge.says("with blanks (9, 10, 13, 32) between or not");
        for (int sign = 0; sign < 256; sign++) {
            String text = "seed 1 " + (char) sign + " ;";
            if (sign == 9 || sign == 10 || sign == 13 || sign == 32) {
                fine(text);
            } else {
                read(text, 1, sign == ';' ? 9 : 7);
            }
        }
        fine("wave 1 2 3 4 5 6;party p 1 2;needs=if at<1then 2else 3*(odds);seed 4;");
        fine("\t\n\r wave\t1\n2\r3\r\n4 \t 5  6\n;\nparty\rp\r1\r2\r;\r");
        fine("wave1 2 3 4 5 6;party p1 2;seed4;needs=1+2*heavy/(at);");
        fine("   ");
        read("wave 1 2 3 4 5 6;party p12;", 1, 26);
        read("wave 123456;", 1, 5);
    }

    private static void longestTokens() {
        Edge.says("TOKENS, the longest that can be");
        read("waves 1 2 3 4 5 6;", 1, 0);
        read("partyp 1 2;", 1, 0);
        read("needs=atat;", 1, 6);
        read("needs=if 1<2 thenat else 3;", 1, 13);
        read("seed 1 2;", 1, 7);
        fine("seed 12;");
        fine("needs=((1));");
        fine("party ifs1 2;");
    }

    private static void names() {
        Edge.says("NAMES (letters a .. z, 8 at most");
        fine("party a 1 2;");
        fine("party z 1 2;");
        fine("party abcdefgh 1 2;");
        read("party abcdefghi 1 2;", 1, 6);
        read("party " + "a".repeat(300) + " 1 2;", 1, 6);
        for (char sign : new char[] {'`', '{', 'A', 'Z', '_', 0, 255, 0xe1}) {
            read("party " + sign + " 1 2;", 1, 6);
            read("party a" + sign + " 1 2;", 1, 7);
        }
        read("party 1 2;", 1, 6);
        read("party a1 2 3;", 1, 11);
        fine("party abcdefgh 1 2;party abcdefg 1 2;party abcdefgi 1 2;");
    }

    private static void noWordIsAName() {
        Edge.says("none of the words in quotes)");
        for (String word : WORDS) {
            read("party " + word + " 1 2;", 1, 6);
            fine("party " + word + "x 1 2;");
            fine("party x" + word + " 1 2;");
            fine("party " + (word.equals("at") ? "a" : word.substring(0, word.length() - 1)) + " 1 2;");
        }
        for (String name : new String[] {"waves", "lot", "need", "fare", "law", "name", "int", "tell", "here", "over"}) {
            fine("party " + name + " 1 2;");
        }
    }

    private static void ints() {
        Edge.says("INTS (1 to 4 digits)");
        fine("seed 0;");
        fine("seed 9;");
        fine("seed 0000;");
        fine("seed 9999;");
        read("seed 10000;", 1, 5);
        read("seed 00000;", 1, 5);
        read("seed " + "0".repeat(300) + "1;", 1, 5);
        read("seed 99999999999999999999;", 1, 5);
        fine("wave 0001 0000 09 8 7 0006;");
        fine("needs = 9999 * 0000;");
        read("needs = 99999;", 1, 8);
        read("seed :;", 1, 5);
        read("seed 1:;", 1, 6);
    }

    private static void signs() {
        Edge.says("SIGNS ; = + - * / < ( ) .");
        fine("needs=if(1+2)*3-4/5<6then 7else 8;");
        // A sign is a token by itself, whatever stands behind it.
        read("needs==1;", 1, 6);
        read("needs=1<=2;", 1, 7);
        read("needs=1+-2;", 1, 8);
        read("needs=1**2;", 1, 8);
        read("needs=1//2;", 1, 8);
        read("needs=if 1<<2 then 3 else 4;", 1, 11);
        read("seed 1;;", 1, 7);
        read("seed 1.", 1, 6);
        // Each of them where no text goes on with it.
        for (int i = 0; i < SIGNS.length(); i++) {
            read(SIGNS.charAt(i) + "seed 1;", 1, 0);
            read("seed " + SIGNS.charAt(i) + "1;", 1, 5);
        }
    }

    private static void noOtherToken() {
        Edge.says("A longer one, all else, is no TOKEN.");
        for (int sign = 0; sign < 256; sign++) {
            boolean isBlank = sign == 9 || sign == 10 || sign == 13 || sign == 32;
            boolean isToken = sign >= 'a' && sign <= 'z' || sign >= '0' && sign <= '9' || SIGNS.indexOf(sign) >= 0;
            if (!isBlank && !isToken) {
                read((char) sign + "seed 1;", 1, 0);
                read("needs = 1 " + (char) sign + " 1;", 1, 10);
                read("needs = 1;" + (char) sign, 1, 10);
            }
        }
        // What is too long is no token from its first byte on, where a shorter one could stand.
        read("needs = 1 + 12345;", 1, 12);
        read("party abcdefghi", 1, 6);
        read("needs = heavyheavy;", 1, 8);
    }

    private static void grammar() {
        Edge.says("text: {TELL}.");
        fine("");
        fine(WAVE);
        read(";", 1, 0);
        read(WAVE + ";", 1, 17);
        Edge.says("TELL: 'wave' INT INT INT INT INT INT ';' | 'party' NAME INT INT ';' | ('needs' | 'fares' | 'dares' |"
            + " 'shifts') LAW ';' | 'seed' INT ';'.");
        for (String tell : new String[] {"wave 1 2 3 4 5 6 ;", "party p 1 2 ;", "needs = 1 ;", "fares = 1 ;",
            "dares = 1 ;", "shifts = 1 ;", "seed 1 ;", "needs = if 1 < 2 then 3 else ( 4 ) ;"}) {
            fine(tell);
            cutOff(tell);
        }
        Edge.says("LAW: '=' {'if' E '<' E 'then' E 'else'} E.");
        fine("needs = 1;");
        fine("needs = if 1 < 2 then 3 else 4;");
        read("needs = ;", 1, 8);
        read("needs = if 1 < 2 then 3 else ;", 1, 29);
        read("needs = if < 2 then 3 else 4;", 1, 11);
        read("needs = if 1 < then 3 else 4;", 1, 15);
        read("needs = if 1 < 2 then else 4;", 1, 22);
        read("needs = 1 if;", 1, 10);
        Edge.says("E: PART {('+' | '-') PART}. PART: UNIT {('*' | '/') UNIT}. UNIT: INT | VAR | '(' E ')'.");
        fine("needs = 1 + 2 - 3 * 4 / 5;");
        for (char sign : new char[] {'+', '-', '*', '/'}) {
            read("needs = " + sign + "1;", 1, 8);
            read("needs = 1" + sign + ";", 1, 10);
            read("needs = 1" + sign + sign + "1;", 1, 10);
            read("needs = (1" + sign + ");", 1, 11);
        }
        read("needs = (1;", 1, 10);
        read("needs = 1);", 1, 9);
        read("needs = ();", 1, 9);
        read("needs = (1)(2);", 1, 11);
        Edge.says("VAR: 'at' | 'odds' | 'heavy' | 'nerve' | 'left' | 'year' | 'which' | 'buoys' | 'goes'.");
        for (int i = 0; i < WORDS.length; i++) {
            if (i < 10) {
                read("fares = 1 + " + WORDS[i] + ";", 1, 12);
            } else {
                fine("fares = 1 + " + WORDS[i] + ";");
            }
        }
        read("fares = name;", 1, 8);
    }

    /** A tell that ends behind one of its tokens, or goes on there with what is none. */
    private static void cutOff(String tell) {
        for (int end = tell.indexOf(' '); end > 0; end = tell.indexOf(' ', end + 1)) {
            String cut = tell.substring(0, end);
            read(cut, 1, end);
            read(cut + " ?", 1, end + 1);
            read(cut + " seed", 1, end + 1);
        }
    }

    private static void wavesAndParties() {
        Edge.says("WAVES, 5 at most");
        fine(WAVE.repeat(5));
        read(WAVE.repeat(6), 2, 85);
        Edge.due("waves of five", Edge.told(WAVE.repeat(5)).count(0), 5);
        Edge.says("PARTIES, 6 at most (a NAME, HEAVY 0 .. 9, NERVE 0 .. 9)");
        fine(SIX_PARTIES);
        read(SIX_PARTIES + "party g 1 1;", 2, 72);
        Edge.due("parties of six", Edge.told(SIX_PARTIES).count(1), 6);
        fine("party a 0 0;party b 9 9;party c 09 0009;");
        read("party a 10 0;", 5, 8);
        read("party a 0 10;", 5, 10);
        read("party a 9999 0;", 5, 8);
        read("party a 10 10;", 5, 8);
        read("party a 9;", 1, 9);
        read("party a 1 2 3;", 1, 12);
        Edge.says("numbered each from 0 on as they stand");
        GuessFerry x = Edge.told("party z 1 2; wave 1 0 0 0 0 0; party a 3 4; seed 1; wave 0 2 0 0 0 0; party m 5 6;");
        Edge.due("party(0, 0)", x.party(0, 0), 1);
        Edge.due("party(1, 1)", x.party(1, 1), 4);
        Edge.due("party(2, 0)", x.party(2, 0), 5);
        Edge.due("party(3, 0)", x.party(3, 0), -1);
        Edge.due("odds(0, 0)", x.odds(0, 0), 1);
        Edge.due("odds(1, 1)", x.odds(1, 1), 2);
        Edge.due("odds(2, 0)", x.odds(2, 0), -1);
    }

    private static void oddsOfAWave() {
        Edge.says("(for each THING 0 .. 5 its ODDS 0 .. 9, not all 0)");
        for (int thing = 0; thing < 6; thing++) {
            StringBuilder one = new StringBuilder("wave 0 0 0 0 0 0;");
            int place = 5 + 2 * thing;
            one.setCharAt(place, '1');
            fine(one.toString());
            one.setCharAt(place, '9');
            fine(one.toString());
            Edge.due("odds(0, " + thing + ")", Edge.told(one.toString()).odds(0, thing), 9);
            read(one.replace(place, place + 1, "10").toString(), 5, place);
            read(one.replace(place, place + 2, "9999").toString(), 5, place);
        }
        fine("wave 9 9 9 9 9 9;");
        read("wave 0 0 0 0 0 0;", 5, 15);
        read("wave 1 2 3 4 5;", 1, 14);
        read("wave 1 2 3 4 5 6 7;", 1, 17);
        read("wave;", 1, 4);
    }

    private static void lawsIfNotTold() {
        Edge.says("LAWS: NEEDS (heavy), FARES (1), DARES (1), SHIFTS (0), if not told; the last one.");
        String text = "wave 1 2 3 4 5 6; party p 7 3;";
        GuessFerry x = Edge.told(text);
        laws(x, 7, 1, 1, 0);
        Edge.feed(x, text + "needs=1;fares=2;dares=0;shifts=3;");
        Edge.due("read()", x.read(), 0);
        laws(x, 1, 2, 0, 3);
        Edge.feed(x, "needs=1;fares=2;dares=0;shifts=3;needs=4;fares=5;dares=6;shifts=8;" + text + "fares=9;");
        Edge.due("read()", x.read(), 0);
        laws(x, 4, 9, 1, 8);
        // What an earlier text told holds no more.
        Edge.feed(x, text);
        Edge.due("read()", x.read(), 0);
        laws(x, 7, 1, 1, 0);
        // A law of many ifs is gone wholly behind a shorter one.
        laws(Edge.told(text + "needs=" + IF.repeat(4) + "1;needs=2;"), 2, 1, 1, 0);
        for (int ifs : new int[] {4, 3, 2, 1, 0, 1, 2, 3, 4, 0}) {
            Edge.feed(x, text + "needs=" + "if 9<8 then 7 else ".repeat(ifs) + ifs + ";");
            Edge.due("read()", x.read(), 0);
            laws(x, ifs, 1, 1, 0);
        }
    }

    private static void laws(GuessFerry x, int needs, int fares, int dares, int shifts) {
        Edge.due("needs(0, 0, 0)", x.needs(0, 0, 0), needs);
        Edge.due("party(0, 4)", x.party(0, 4), fares);
        Edge.due("party(0, 5)", x.party(0, 5), dares);
        Edge.due("wave(0, 5)", x.wave(0, 5), shifts);
    }

    private static void seeds() {
        Edge.says("SEED 0 .. 9999 (0): the last one.");
        String wave = "wave 1 1 1 1 1 1;";
        for (int seed : new int[] {0, 1, 42, 4711, 9998, 9999}) {
            int there = Edge.lot(6, seed, 0);
            Edge.due("seed " + seed, Edge.told(wave + "seed " + seed + ";").wave(0, 4), there);
            Edge.due("seed " + seed + " last", Edge.told("seed 7;" + wave + "seed " + seed + ";").wave(0, 4), there);
        }
        Edge.due("no seed", Edge.told(wave).drawn(0, 20), Edge.told(wave + "seed 0;").drawn(0, 20));
        Edge.due("no seed", Edge.told(wave).wave(0, 4), Edge.lot(6, 0, 0));
        GuessFerry x = Edge.told(wave + "seed 42;");
        Edge.feed(x, wave);
        x.read();
        Edge.due("no seed behind one", x.wave(0, 4), Edge.lot(6, 0, 0));
        read("seed 1", 1, 6);
        read("seed;", 1, 4);
        read("seed = 1;", 1, 5);
    }

    private static void firstFault() {
        Edge.says("FAULTS of a text, the first by its place (a byte; the text's end: its length)");
        read("seed 1; ? seed ?;", 1, 8);
        read(WAVE.repeat(6) + "?", 2, 85);
        read("?" + WAVE.repeat(6), 1, 0);
        read("seed", 1, 4);
        read("seed ", 1, 5);
        read("seed 1 \n\n", 1, 9);
        read("needs = 1 +", 1, 11);
        Edge.says("of one place the least");
        // Of the 401st token: it cannot stand there, and there is no room for it.
        String full = "needs=1" + "+1".repeat(198) + ";";
        read(full + "fish", 1, 404);
        read(full + "needs", 2, 404);
        read(full + WAVE, 2, 404);
    }

    private static void syntax() {
        Edge.says("1 SYNTAX: a TOKEN, or what is none, with which no text goes on.");
        for (String token : new String[] {"fish", "1", ";", "=", "+", "-", "*", "/", "<", "(", ")", "if", "then",
            "else", "at", "goes", "?"}) {
            read(token, 1, 0);
            read("seed 1;" + token, 1, 7);
        }
        for (String token : new String[] {"wave", "party", "needs", "fares", "dares", "shifts", "seed"}) {
            read(token, 1, token.length());
            read(token + " ;", 1, token.length() + 1);
            read(token + " " + token, 1, token.length() + 1);
        }
        read("party p q 1;", 1, 8);
        read("needs = if 1 < 2 else 3;", 1, 17);
        read("needs = if 1 + 2 then 3 else 4;", 1, 17);
        read("needs = (if 1 < 2 then 3 else 4);", 1, 9);
        read("needs = 1 < 2;", 1, 10);
        read("needs = if (1 < 2) then 3 else 4;", 1, 14);
        read("needs = if 1 < 2 then 3 else 4 else 5;", 1, 31);
    }

    private static void room() {
        Edge.says("2 ROOM: a 401st TOKEN");
        fine("needs=1" + "+1".repeat(198) + ";");
        fine("needs=1" + "+1".repeat(198) + ";   \n");
        read("needs=1" + "+1".repeat(199) + ";", 2, 404);
        read("needs=1" + "+1".repeat(198) + "; seed 1;", 2, 405);
        read("seed 1;".repeat(133) + "seed 1;", 2, 7 * 133 + 5);
        fine("seed 1;".repeat(133));
        read("needs=1" + "+1".repeat(198), 1, 403);
        Edge.says("one more of a sort than told (at its first TOKEN)");
        read(WAVE.repeat(5) + "  wave", 2, 87);
        read(WAVE.repeat(5) + "wave ?", 2, 85);
        read(WAVE.repeat(5) + "seed 1;" + WAVE, 2, 92);
        read(SIX_PARTIES + " party", 2, 73);
        read(SIX_PARTIES + "party a 1 1;", 2, 72);
        read(SIX_PARTIES + WAVE.repeat(5) + WAVE, 2, 72 + 85);
        fine("seed 1;".repeat(12) + "needs=1;".repeat(12));
        Edge.says("a 5th if of a LAW (at it)");
        fine("needs=" + IF.repeat(4) + "1;");
        read("needs=" + IF.repeat(5) + "1;", 2, 6 + 76);
        read("needs=" + IF.repeat(4) + " if ?", 2, 6 + 77);
        for (String law : new String[] {"needs", "fares", "dares", "shifts"}) {
            fine(law + "=" + IF.repeat(4) + "1;" + law + "=" + IF.repeat(4) + "1;" + "seed 1;");
            read("seed 1;" + law + "=" + IF.repeat(5) + "1;", 2, 7 + law.length() + 1 + 76);
        }
        Edge.says("a 7th ( within one another (at it)");
        fine("needs=((((((1))))));");
        read("needs=(((((((1)))))));", 2, 12);
        read("needs=(((((( (?", 2, 13);
        fine("needs=((((((1))))))*((((((1))))))+((((((1))))));");
        fine("needs=(1)+(2)+(3)+(4)+(5)+(6)+(7)+((((((8))))));");
        read("needs=1+(1*(1-(1/(1+(1*(1-(1)))))));", 2, 26);
        fine("needs=if ((((((1))))))<((((((2)))))) then ((((((3)))))) else ((((((4))))));");
        Edge.due("all that waits ahead of six", Edge.told("party p 0 0;fares=9-1*(9-1*(9-1*(9-1*(9-1*(9-1*(9-1*4))))));")
            .party(0, 4), 5);
        Edge.due("all that waits ahead of six", Edge.told("party p 0 0;fares=1+1*(1+1*(1+1*(1+1*(1+1*(1+1*(1+1*2))))));")
            .party(0, 4), 9);
        read("needs=if 1<(((((((2))))))) then 3 else 4;", 2, 17);
    }

    private static void twiceAndWrong() {
        Edge.says("If there is none, likewise: 3 TWICE: a NAME told already.");
        read("party p 1 1;party p 1 1;", 3, 18);
        read("party p 1 1;party q 1 1;party p 1 1;party q 1 1;", 3, 30);
        read("party p 1 1;party p 1 1;?", 1, 24);
        read("party p 1 1;party p 1 1;" + WAVE.repeat(6), 2, 24 + 85);
        read("party p 1 1;party p 1 10;", 3, 18);
        read("party p 1 10;party p 1 1;", 5, 10);
        read("party aaaaaaaa 1 1;party aaaaaaab 1 1;party aaaaaaaa 1 1;", 3, 44);
        fine("party ab 1 1;party ba 1 1;party a 1 1;party b 1 1;party aa 1 1;party bb 1 1;");
        fine("party p 1 1;party ap 1 1;party apa 1 1;party zzzzzzzz 1 1;party zzzzzzz 1 1;party azzzzzzz 1 1;");
        unlikeNames();
        // A name of a text read earlier is told anew.
        GuessFerry x = Edge.told("party p 1 1;");
        Edge.feed(x, "party p 1 1;");
        Edge.due("read() of the same again", x.read(), 0);
        wrongNumbers();
    }

    /** Names that differ in one letter, wherever it is, are not the same. */
    private static void unlikeNames() {
        for (int at = 0; at < 8; at++) {
            for (char letter = 'a'; letter <= 'z'; letter++) {
                StringBuilder name = new StringBuilder("mmmmmmmm");
                name.setCharAt(at, letter);
                String text = "party mmmmmmmm 1 1;party " + name + " 1 1;";
                if (letter == 'm') {
                    read(text, 3, 25);
                } else {
                    fine(text);
                }
            }
        }
    }

    private static void wrongNumbers() {
        Edge.says("5 WRONG (at the INT): a number not as told above");
        read("party p 1 1;wave 0 1 10 10 1 1;", 5, 21);
        read("wave 10 0 0 0 0 0;?", 1, 18);
        read("wave 10 0 0 0 0 0;" + WAVE.repeat(5), 2, 18 + 68);
        read("party p 10 1;party p 1 1;", 5, 8);
        Edge.says("(at a WAVE's last INT) ODDS that are all 0");
        read("wave 0 0 0 0 0 0000;", 5, 15);
        read(WAVE + "wave 0 0 0 0 0   0 ;", 5, 34);
        read("wave 0 0 0 0 0 0;wave 10 0 0 0 0 0;", 5, 15);
        read("wave 0 0 0 0 0 0", 1, 16);
        read("wave 0 0 0 0 0 10;", 5, 15);
    }

    private static GuessFerry underWay() {
        GuessFerry x = Edge.told("wave 3 2 0 0 0 1; wave 1 1 1 0 0 0; party a 0 1; party b 9 1; party c 0 0;"
            + "needs=heavy;fares=3+goes;dares=nerve;shifts=20;seed 5;");
        x.go(0, x.count(15));
        x.go(1, 0);
        x.years(2);
        x.buoy(0, 1, true);
        x.tell(0, 3, true);
        x.tell(1, 1, false);
        for (int slot = 0; slot < 3; slot++) {
            x.hold(slot);
        }
        x.go(2, 35);
        return x;
    }

    private static void faultChangesNothing() {
        Edge.says("A text with a FAULT changes nothing but the tape");
        String[] texts = {"wave 9 9 9 9 9 9;party z 1 1;needs=0;seed 1;?", WAVE.repeat(6),
            "wave 5 5 5 5 5 5;party z 1 1;party z 2 2;fares=9;", "shifts=100;dares=0;wave 0 0 0 0 0 0;seed 77;"};
        int[] faults = {1, 2, 3, 5};
        for (int i = 0; i < texts.length; i++) {
            GuessFerry x = underWay();
            GuessFerry same = underWay();
            Edge.feed(x, texts[i]);
            Edge.due("read() of " + texts[i], x.read(), faults[i]);
            Edge.due("the tape", x.count(8), 0);
            Edge.due("read() of " + texts[i], Edge.state(x), Edge.state(same));
            Edge.due("fit(2, 0, 1)", x.fit(2, 0, 1), same.fit(2, 0, 1));
            Edge.due("undo()", x.undo(), true);
            same.undo();
            Edge.due("undo() behind it", Edge.state(x), Edge.state(same));
            Edge.due("years(9)", x.years(9), same.years(9));
            Edge.due("years(9) behind it", Edge.state(x), Edge.state(same));
            for (int slot = 0; slot < 3; slot++) {
                Edge.due("restore(" + slot + ")", x.restore(slot), true);
            }
            same.restore(1);
            Edge.due("restore() behind it", Edge.state(x), Edge.state(same));
        }
    }

    private static void newTextBeginsAnew() {
        Edge.says("else it is in place of the one ahead: year 0, nothing known, all PARTIES here;"
            + " nothing can be undone, nothing is TOLD, SLOTS hold nothing.");
        String text = "wave 3 2 0 0 0 1; wave 1 1 1 0 0 0; party a 0 1; party b 9 1; party c 0 0;";
        GuessFerry x = underWay();
        Edge.feed(x, text);
        Edge.due("read()", x.read(), 0);
        Edge.due("read() of the text anew", Edge.state(x), Edge.state(Edge.told(text)));
        Edge.due("year", x.count(2), 0);
        Edge.due("found", x.count(13), 0);
        Edge.due("buoys", x.count(12), 0);
        Edge.due("parties here", x.count(4), 7);
        Edge.due("undo()", x.undo(), false);
        Edge.due("told", x.count(10), 0);
        Edge.due("fit(1, 0, 0)", x.fit(1, 0, 0), -1);
        for (int slot = 0; slot < 3; slot++) {
            Edge.due("restore(" + slot + ")", x.restore(slot), false);
        }
        Edge.due("read() of nothing", x.read(), 0);
        Edge.due("read() of nothing", Edge.state(x), Edge.state(new GuessFerry()));
        Edge.feed(x, "wave 0 0 0 0 0 1; wave 1 0 0 0 0 0; party p 1 1;");
        x.read();
        Edge.due("what may be by this text alone", x.wave(0, 0), 32);
        Edge.due("what may be by this text alone", x.wave(1, 0), 1);
        longTexts(x);
    }

    /** However many texts there were, the last one's laws have room. */
    private static void longTexts(GuessFerry x) {
        for (int i = 1; i <= 9; i++) {
            Edge.feed(x, "party p 1 1;fares=" + i + "+1-1".repeat(90) + ";");
            Edge.due("read() of a long law", x.read(), 0);
            Edge.due("a long law, text " + i, x.party(0, 4), i);
        }
    }
}
