/** The edges of what goes on: each sentence of part II that names one, by a test of its own. */
public final class CrossingEdgesTest {
    private static final String ONE = "wave 4 0 6 0 0 0; party p 2 3;";

    public static void main(String[] args) {
        countedYears();
        whatIsThere();
        guessNumbers();
        whatMayBe();
        firstIfThatHolds();
        wrappingInts();
        roundingTowardsZero();
        dividingByZero();
        varsNotTold();
        varsOfNeeds();
        heldValues();
        lots();
        paying();
        waveByWave();
        sinking();
        lettingDown();
        asItWent();
        goingOver();
        shifting();
        asItBegan();
        byHand();
        Edge.end("CrossingEdgesTest");
    }

    private static void countedYears() {
        Edge.says("YEARS are counted on.");
        GuessFerry x = Edge.told(ONE + "shifts=100;");
        Edge.due("years(2)", x.years(2), 2);
        Edge.due("years(40)", x.years(40), 42);
        Edge.due("years(1)", x.years(1), 43);
        Edge.due("count(2)", x.count(2), 43);
        x.go(0, 2);
        x.fetch(0);
        x.buoy(0, 0, true);
        Edge.due("other things take no year", x.count(2), 43);
        Edge.due("a year in which all shifts is one", x.years(1), 44);
    }

    private static void whatIsThere() {
        Edge.says("What is THERE over a WAVE: the THING v, the least, for which ODDS of all from 0 to v, added, are"
            + " more than LOT of the sum of all its ODDS, of the SEED and 8 * how often that WAVE shifted so far and the WAVE.");
        int[][] odds = {{0, 9, 0, 3, 0, 1}, {1, 1, 1, 1, 1, 1}, {2, 0, 0, 0, 0, 1}, {0, 0, 0, 0, 0, 9}, {9, 9, 9, 9, 9, 9}};
        StringBuilder waves = new StringBuilder();
        for (int[] one : odds) {
            waves.append("wave");
            for (int each : one) {
                waves.append(' ').append(each);
            }
            waves.append(';');
        }
        for (int seed = 0; seed < 10000; seed += 271) {
            GuessFerry x = Edge.told(waves + "shifts=100;seed " + seed + ";");
            for (int shifted = 0; shifted < 9; shifted += 4) {
                for (int wave = 0; wave < 5; wave++) {
                    int there = thereBy(odds[wave], seed, 8 * shifted + wave);
                    Edge.due("wave(" + wave + ", 4) by seed " + seed + ", shifted " + shifted, x.wave(wave, 4), there);
                }
                x.years(4);
            }
        }
    }

    private static int thereBy(int[] odds, int seed, int which) {
        int sum = 0;
        for (int each : odds) {
            sum += each;
        }
        int lot = Edge.lot(sum, seed, which);
        int thing = 0;
        int added = odds[0];
        while (added <= lot) {
            thing++;
            added += odds[thing];
        }
        return thing;
    }

    private static void guessNumbers() {
        Edge.says("A GUESS: a THING for each WAVE; its number: the THING of WAVE 0, and 6 times that of WAVE 1, and"
            + " 36 times that of WAVE 2, and so on.");
        GuessFerry x = Edge.told("wave 0 2 0 0 0 0;wave 0 0 3 0 0 0;wave 0 0 0 5 0 0;wave 0 0 0 0 7 0;wave 0 0 0 0 0 1;");
        int only = 1 + 6 * 2 + 36 * 3 + 216 * 4 + 1296 * 5;
        Edge.due("likeliest()", x.likeliest(), only);
        Edge.due("count(15)", x.count(15), only);
        Edge.due("chance(only)", x.chance(only), 210);
        Edge.due("chance(7775)", x.chance(7775), 0);
        Edge.due("chance(7776)", x.chance(7776), -1);
        for (int waves = 0, guesses = 1; waves <= 5; waves++, guesses *= 6) {
            GuessFerry y = Edge.told("wave 1 1 1 1 1 1;".repeat(waves));
            Edge.due("count(14) of " + waves, y.count(14), guesses);
            Edge.due("the last GUESS of " + waves, y.chance(guesses - 1), 1);
            Edge.due("behind the last GUESS of " + waves, y.chance(guesses), -1);
        }
    }

    private static void whatMayBe() {
        Edge.says("KNOWN of a WAVE are THINGS that MAY be there: those with ODDS above 0, but for such as a BUOY tells"
            + " are not; or one alone, if it is FOUND.");
        GuessFerry x = Edge.told("wave 0 1 9 0 0 1; party p 0 0;");
        int there = x.wave(0, 4);
        Edge.due("odds of 1 are above 0", x.wave(0, 0), 38);
        x.buoy(0, 0, true);
        Edge.due("a buoy of what may not be", x.wave(0, 0), 38);
        x.buoy(0, 1, true);
        x.buoy(0, 2, true);
        x.buoy(0, 5, true);
        Edge.due("buoys of all", x.wave(0, 0), 0);
        Edge.due("go by what a buoy tells is not", x.go(0, there), 1);
        Edge.due("found, with its buoy", x.wave(0, 0), 1 << there);
        Edge.due("its buoy lies on", x.wave(0, 2), 39);
        x.buoy(0, there, false);
        Edge.due("found, without its buoy", x.wave(0, 0), 1 << there);
        x.buoy(0, there, true);
        Edge.due("found, with a buoy laid again", x.wave(0, 0), 1 << there);
    }

    private static int needed(String law) {
        return Edge.told(ONE + "needs = " + law + ";").needs(0, 0, 2);
    }

    private static void needed(String law, int want) {
        Edge.due("needs = " + law, needed(law), want);
    }

    private static void firstIfThatHolds() {
        Edge.says("LAWS: the E of the first if that holds (one less than the other), else the last one");
        needed("if 1 < 2 then 3 else 4", 3);
        needed("if 2 < 2 then 3 else 4", 4);
        needed("if 3 < 2 then 3 else 4", 4);
        needed("if 0-1 < 0 then 3 else 4", 3);
        needed("if 0 < 0-1 then 3 else 4", 4);
        needed("if 1 < 2 then 3 else if 1 < 2 then 4 else 5", 3);
        needed("if 2 < 2 then 3 else if 1 < 2 then 4 else 5", 4);
        for (int at = 0; at <= 4; at++) {
            StringBuilder law = new StringBuilder();
            for (int i = 0; i < 4; i++) {
                law.append("if ").append(i == at ? "1<2" : "2<2").append(" then ").append(i + 1).append(" else ");
            }
            needed(law + "5", at + 1);
        }
    }

    private static void wrappingInts() {
        Edge.says("ints of 32 bits that wrap");
        needed("8192*8192*32", 0);
        needed("if 8192*8192*32 < 0 then 7 else 8", 7);
        needed("if 8192*8192*32-1 < 0 then 7 else 8", 8);
        needed("if 8192*8192*64 < 1 then 7 else 8", 7);
        needed("8192*8192*64+3", 3);
        needed("if 0-8192*8192*32 < 0 then 7 else 8", 7);
        needed("if 0-8192*8192*32-1 < 0 then 7 else 8", 8);
        needed("if (8192*8192*32-1)+1 < 0 then 7 else 8", 7);
    }

    private static void roundingTowardsZero() {
        Edge.says("/ rounded towards 0");
        needed("7/2", 3);
        needed("5+(0-7)/2", 2);
        needed("5+7/(0-2)", 2);
        needed("5+(0-7)/(0-2)", 8);
        needed("5+(0-1)/2", 5);
        needed("1/2", 0);
        // The least int by -1 is itself.
        needed("if (0-8192*8192*32)/(0-1) < 0 then 7 else 8", 7);
    }

    private static void dividingByZero() {
        Edge.says("a LAW in which something that is looked at is divided by 0 is 0");
        needed("1/0", 0);
        needed("0/0+5", 0);
        needed("5+1/(at-at)", 0);
        needed("5+0*(3/0)", 0);
        needed("5-3/(2-2)*0+4", 0);
        needed("if 1/0 < 1 then 3 else 4", 0);
        needed("if 0-1 < 1/0 then 3 else 4", 0);
        needed("if 2 < 1/0 then 3 else 4", 0);
        needed("if 1 < 2 then 1/0 else 4", 0);
        needed("if 2 < 2 then 3 else 1/0", 0);
        needed("if 2 < 2 then 3 else if 1/0 < 1 then 4 else 5", 0);
        // What is not looked at does not count.
        needed("if 1 < 2 then 3 else 1/0", 3);
        needed("if 2 < 2 then 1/0 else 4", 4);
        needed("if 1 < 2 then 3 else if 1/0 < 1/0 then 1/0 else 1/0", 3);
        String wave = "wave 1 0 0 0 0 0; party p 5 5;";
        Edge.due("fares", Edge.told(wave + "fares = 7+1/0;").party(0, 4), 0);
        Edge.due("dares", Edge.told(wave + "dares = 7+1/0;").party(0, 5), 0);
        Edge.due("shifts", Edge.told(wave + "shifts = 7+1/0;").wave(0, 5), 0);
        // A law of one call is none of the next one's.
        GuessFerry x = Edge.told("wave 1 2 0 0 0 0; party p 5 5; needs = 6/odds;");
        Edge.due("needs(0, 0, 2)", x.needs(0, 0, 2), 0);
        Edge.due("needs(0, 0, 1)", x.needs(0, 0, 1), 3);
    }

    private static void varsNotTold() {
        Edge.says("a VAR not told for a LAW is 0 in it; year for all");
        GuessFerry x = Edge.told("wave 1 1 0 0 0 0; wave 0 9 0 0 0 0; party p 7 8; party q 7 8;"
            + "fares=at*100+odds*100+left*100+buoys*100+year; dares=year-2+at+odds+left+buoys;"
            + "shifts=heavy*100+nerve*100+which*100+goes*100+odds*100+year; needs=year;");
        x.buoy(0, 5, true);
        x.go(0, 0);
        x.go(1, 0);
        x.years(2);
        // Other laws were looked at with all their vars just ahead.
        x.needs(1, 1, 1);
        Edge.due("fares", x.party(1, 4), 2);
        x.needs(1, 1, 1);
        Edge.due("dares", x.party(1, 5), 0);
        x.needs(1, 1, 1);
        Edge.due("shifts", x.wave(1, 5), 2);
        Edge.due("needs", x.needs(1, 1, 1), 2);
        x.years(1);
        Edge.due("dares a year on", x.party(1, 5), 1);
        Edge.says("FARES of a PARTY (at, odds, left, buoys 0), held to 0 .. 99; DARES of a PARTY (likewise)");
        Edge.due("fares by the told vars", Edge.told("party p 2 3; party q 4 5; fares=heavy*10+nerve+which+goes;")
            .party(1, 4), 46);
        Edge.due("dares by the told vars", Edge.told("party p 2 3; party q 4 5; dares=heavy*10+nerve-45-which;")
            .party(1, 5), 0);
        Edge.says("SHIFTS of a WAVE (heavy, nerve, which, goes, odds 0), held to 0 .. 100");
        GuessFerry y = Edge.told("wave 1 0 0 0 0 0; wave 1 1 1 0 0 0; shifts=at*40+left*10+buoys;");
        y.buoy(1, 0, true);
        y.buoy(1, 5, true);
        Edge.due("shifts of wave 0", y.wave(0, 5), 10);
        Edge.due("shifts of wave 1", y.wave(1, 5), 62);
    }

    private static void varsOfNeeds() {
        Edge.says("Of a PARTY, a WAVE and a THING: at: the WAVE; odds: of the THING; heavy, nerve; left: how many THINGS"
            + " MAY be over that WAVE; which: the PARTY's number; buoys: how many BUOYS lie over it; goes: how often the"
            + " PARTY went so far.");
        String text = "wave 1 2 3 4 5 6; wave 0 9 0 0 0 0; party p 1 2; party q 3 4; needs = ";
        Edge.due("at", Edge.told(text + "at;").needs(0, 1, 0), 1);
        Edge.due("odds", Edge.told(text + "odds;").needs(0, 0, 5), 6);
        Edge.due("odds of 0", Edge.told(text + "odds;").needs(0, 1, 0), 0);
        Edge.due("heavy", Edge.told(text + "heavy;").needs(1, 0, 0), 3);
        Edge.due("nerve", Edge.told(text + "nerve;").needs(1, 0, 0), 4);
        Edge.due("which", Edge.told(text + "which;").needs(1, 0, 0), 1);
        GuessFerry x = Edge.told(text + "left;");
        Edge.due("left of six", x.needs(0, 0, 0), 6);
        for (int thing = 0; thing < 6; thing++) {
            x.buoy(0, thing, true);
        }
        Edge.due("left of none", x.needs(0, 0, 0), 0);
        GuessFerry y = Edge.told(text + "buoys;");
        Edge.due("buoys of none", y.needs(0, 1, 0), 0);
        for (int thing = 0; thing < 6; thing++) {
            y.buoy(1, thing, true);
        }
        Edge.due("six buoys, most of what may not be", y.needs(0, 1, 0), 6);
        GuessFerry z = Edge.told(text + "goes;");
        Edge.due("goes ahead of all", z.needs(1, 0, 0), 0);
        z.go(1, (z.wave(0, 4) + 1) % 6);
        Edge.due("goes behind one", z.needs(1, 0, 0), 1);
        Edge.due("goes of the other", z.needs(0, 0, 0), 0);
    }

    private static void heldValues() {
        Edge.says("NEEDS, held to 0 .. 9: how great ODDS must be so that it bears.");
        needed("0-1", 0);
        needed("0", 0);
        needed("9", 9);
        needed("10", 9);
        needed("9999", 9);
        needed("8192*8192*32", 0);
        Edge.due("odds of 9 bear what needs 10", Edge.told("wave 9 0 0 0 0 0;party p 0 0;needs=10;").bears(0, 0), 1);
        Edge.due("odds of 0 bear what needs -1", Edge.told("wave 9 0 0 0 0 0;party p 0 0;needs=0-1;").bears(0, 1), 1);
        Edge.says("held to 0 .. 99");
        int[] fares = {0, 1, 98, 99, 100, 9999};
        for (int fare : fares) {
            Edge.due("fares = " + fare, Edge.told("party p 1 1;fares=" + fare + ";").party(0, 4), Math.min(99, fare));
        }
        Edge.due("fares = -1", Edge.told("party p 1 1;fares=0-1;").party(0, 4), 0);
        Edge.says("it goes if that tells more than 0");
        Edge.due("dares = -1", Edge.told("party p 1 1;dares=0-1;").party(0, 5), 0);
        Edge.due("dares = 0", Edge.told("party p 1 1;dares=0;").party(0, 5), 0);
        Edge.due("dares = 1", Edge.told("party p 1 1;dares=1;").party(0, 5), 1);
        Edge.due("dares = 9999", Edge.told("party p 1 1;dares=9999;").party(0, 5), 1);
        Edge.says("held to 0 .. 100");
        int[] shifts = {0, 1, 99, 100, 101, 9999};
        for (int shift : shifts) {
            GuessFerry x = Edge.told("wave 1 0 0 0 0 0;shifts=" + shift + ";");
            Edge.due("shifts = " + shift, x.wave(0, 5), Math.min(100, shift));
        }
        Edge.due("shifts = -1", Edge.told("wave 1 0 0 0 0 0;shifts=0-1;").wave(0, 5), 0);
    }

    private static void lots() {
        Edge.says("LOT n of a SEED and a which: h is the SEED; for each of 173, which: h becomes (h and it, each bit of"
            + " which is in just one) times 1103515245 and 12345 more, then h and h moved 15 bits down (zeros come in),"
            + " likewise; the rest of h, moved 1 bit down likewise, by n (32 bits that wrap).");
        // LOT 54 for waves 0 to 4, shifted 0 times and 16,000 times, as worked out apart from this program.
        lotsOf(0, new int[] {12, 33, 50, 5, 5}, new int[] {6, 15, 53, 6, 8});
        lotsOf(1, new int[] {23, 2, 11, 26, 6}, new int[] {39, 18, 29, 48, 12});
        lotsOf(2, new int[] {32, 30, 52, 15, 7}, new int[] {13, 32, 38, 40, 39});
        lotsOf(4711, new int[] {33, 8, 50, 30, 42}, new int[] {18, 9, 51, 45, 11});
        lotsOf(9999, new int[] {42, 24, 0, 35, 19}, new int[] {34, 10, 42, 19, 23});
        Edge.due("a sum of 1", Edge.told("wave 0 0 0 1 0 0;").wave(0, 4), 3);
    }

    private static void lotsOf(int seed, int[] first, int[] last) {
        Edge.due("seed " + seed, Edge.lot(54, seed, 4), first[4]);
        GuessFerry x = Edge.told("wave 9 9 9 9 9 9;".repeat(5) + "shifts=100;seed " + seed + ";");
        for (int wave = 0; wave < 5; wave++) {
            Edge.due("wave(" + wave + ", 4) by seed " + seed, x.wave(wave, 4), first[wave] / 9);
        }
        for (int i = 1; i < 400; i++) {
            x.years(40);
        }
        for (int wave = 0; wave < 5; wave++) {
            Edge.due("then(" + wave + ", 40, 2) by seed " + seed, x.then(wave, 40, 2), last[wave] / 9);
        }
    }

    private static void paying() {
        Edge.says("A PARTY that is HERE GOES by a GUESS: it pays FARES");
        // The first of them sinks, the second is let down, the third comes over: each pays its own.
        GuessFerry x = Edge.told("wave 0 8 0 0 0 0; party a 9 0; party b 0 3; party c 0 5; fares=10+nerve+goes;");
        Edge.due("it sinks", x.go(0, 1), 0);
        Edge.due("paid by the first", x.count(3), 10);
        Edge.due("it is let down", x.go(1, 0), 0);
        Edge.due("paid by two", x.count(3), 10 + 13);
        Edge.due("it comes over", x.go(2, 1), 1);
        Edge.due("paid by three", x.count(3), 10 + 13 + 15);
        Edge.due("lost, it goes not", x.go(0, 1), -1);
        Edge.due("over, it goes not", x.go(2, 1), -1);
        Edge.due("who goes not pays not", x.count(3), 10 + 13 + 15);
        Edge.due("here, it goes once more", x.go(1, 1), 1);
        Edge.due("paid once more", x.count(3), 10 + 13 + 15 + 14);
        Edge.due("fetching is free", x.fetch(1), true);
        Edge.due("paid so far", x.count(3), 10 + 13 + 15 + 14);
    }

    private static void waveByWave() {
        Edge.says("WAVE by WAVE from 0 on");
        // Over each of three waves it may come, sink or be let down: the first that stops it is the last told.
        int[] things = {1, 2, 3};
        for (int stop = 0; stop < 3; stop++) {
            for (int by = 0; by < 2; by++) {
                GuessFerry x = Edge.told("wave 0 8 0 0 0 0; wave 0 0 8 0 0 0; wave 0 0 0 8 0 0; party p 0 0;"
                    + "needs=if odds<1 then " + by + " else 8;");
                int[] row = things.clone();
                for (int wave = stop; wave < 3; wave++) {
                    row[wave] = 5;
                }
                Edge.due("stopped at " + stop, x.go(0, Edge.guess(row)), stop);
                Edge.due("found ahead of " + stop, x.count(13), (1 << stop) - 1);
                Edge.due("buoys, sinking " + by, x.count(12), 1 - by);
                Edge.due("the buoy, sinking " + by, x.wave(stop, 2), by == 0 ? 32 : 0);
                Edge.due("lost or here", x.party(0, 2), by);
            }
        }
    }

    private static void sinking() {
        Edge.says("if ODDS of its THING are less than NEEDS, all by how it was as it went, it SINKS there (it is LOST,"
            + " nothing is told)");
        String wave = "wave 0 5 4 0 0 0; wave 0 0 7 0 0 0;";
        for (int needs = 4; needs <= 6; needs++) {
            GuessFerry x = Edge.told("wave 0 5 0 0 0 0; wave 0 0 7 0 0 0; party p " + needs + " 0;");
            Edge.due("go by odds of 5, needs " + needs, x.go(0, Edge.guess(1, 2)), needs > 5 ? 0 : 2);
            Edge.due("party(0, 2), needs " + needs, x.party(0, 2), needs > 5 ? 1 : 2);
            Edge.due("found, needs " + needs, x.count(13), needs > 5 ? 0 : 3);
        }
        // It sinks though that thing is not there: no buoy.
        GuessFerry y = Edge.told(wave + "party p 1 0; seed 3;");
        Edge.due("go by odds of 0", y.go(0, Edge.guess(0, 2)), 0);
        Edge.due("it is lost", y.party(0, 2), 1);
        Edge.due("no buoy", y.count(12), 0);
        Edge.due("nothing found", y.count(13), 0);
        Edge.due("it went", y.party(0, 3), 1);
        Edge.due("it paid", y.count(3), 1);
        // Sinking at the second wave: the first one is found all the same.
        GuessFerry z = Edge.told("wave 0 8 0 0 0 0; wave 0 0 7 0 0 0; party p 8 0;");
        Edge.due("go", z.go(0, Edge.guess(1, 2)), 1);
        Edge.due("it is lost", z.party(0, 2), 1);
        Edge.due("the first is found", z.count(13), 1);
        Edge.due("no buoy", z.count(12), 0);
    }

    private static void lettingDown() {
        Edge.says("else if that THING is not THERE, it is LET DOWN there (HERE again): there is a BUOY, that THING can"
            + " not be there; else that WAVE is FOUND.");
        GuessFerry x = Edge.told("wave 0 8 0 0 0 0; wave 0 0 7 0 0 0; wave 1 0 0 0 0 0; party p 0 0;");
        Edge.due("go wrong at the first", x.go(0, Edge.guess(0, 2, 0)), 0);
        Edge.due("here again", x.party(0, 2), 0);
        Edge.due("a buoy", x.wave(0, 2), 1);
        Edge.due("nothing found", x.count(13), 0);
        Edge.due("nothing of those behind", x.count(12), 1);
        Edge.due("go wrong at the second", x.go(0, Edge.guess(1, 5, 0)), 1);
        Edge.due("found", x.count(13), 1);
        Edge.due("a buoy", x.wave(1, 2), 32);
        Edge.due("go wrong at the last", x.go(0, Edge.guess(1, 2, 1)), 2);
        Edge.due("found", x.count(13), 3);
        Edge.due("here again", x.party(0, 2), 0);
        Edge.due("go wrong where it is found", x.go(0, Edge.guess(2, 2, 0)), 0);
        Edge.due("found as ahead", x.count(13), 3);
        Edge.due("two buoys", x.wave(0, 2), 5);
        Edge.due("go wrong by the same", x.go(0, Edge.guess(2, 2, 0)), 0);
        Edge.due("two buoys", x.wave(0, 2), 5);
    }

    private static void asItWent() {
        Edge.says("all by how it was as it went");
        String waves = "wave 0 8 0 0 0 0; wave 0 0 7 0 0 0; party p 0 0;";
        GuessFerry x = Edge.told(waves + "needs=goes*9;fares=5+goes;");
        Edge.due("the first go", x.go(0, Edge.guess(1, 2)), 2);
        Edge.due("paid by goes of 0", x.count(3), 5);
        x.fetch(0);
        Edge.due("the second go", x.go(0, Edge.guess(1, 2)), 0);
        Edge.due("paid by goes of 1", x.count(3), 11);
        // A wave's own left and buoys are those ahead of the go.
        GuessFerry y = Edge.told("wave 0 8 0 0 0 0; wave 3 3 3 3 3 3; party p 0 0; needs=if left<2 then 9 else 0;");
        Edge.due("left of the first is 1", y.go(0, Edge.guess(1, 0)), 0);
        Edge.due("lost", y.party(0, 2), 1);
    }

    private static void goingOver() {
        Edge.says("Behind the last WAVE it is OVER. It went once more.");
        GuessFerry x = Edge.told("wave 0 8 0 0 0 0; party p 0 0; party q 9 0;");
        Edge.due("go over", x.go(0, 1), 1);
        Edge.due("over", x.party(0, 2), 2);
        Edge.due("it went", x.party(0, 3), 1);
        Edge.due("the other did not", x.party(1, 3), 0);
        x.fetch(0);
        Edge.due("fetching is no going", x.party(0, 3), 1);
        x.go(0, 0);
        Edge.due("let down, it went", x.party(0, 3), 2);
        x.go(1, 1);
        Edge.due("sunk, it went", x.party(1, 3), 1);
        Edge.due("five waves", Edge.told("wave 0 8 0 0 0 0;".repeat(5) + "party p 0 0;")
            .go(0, Edge.guess(1, 1, 1, 1, 1)), 5);
    }

    private static void shifting() {
        Edge.says("each WAVE for which LOT 100 of the SEED and 8 * the year and 1,000,000 and the WAVE is less than"
            + " SHIFTS shifts: once more, nothing is KNOWN of it any more but ODDS.");
        for (int seed = 0; seed < 6; seed++) {
            int drawn = Edge.lot(100, seed, 8 * 3 + 1000000 + 1);
            for (int more = 0; more <= 1; more++) {
                GuessFerry x = Edge.told("wave 1 0 0 0 0 0; wave 1 1 1 1 1 1; seed " + seed + ";"
                    + "shifts=if at<1 then 0 else if year<3 then 0 else " + (drawn + more) + ";");
                Edge.due("years(4)", x.years(4), 4);
                Edge.due("shifts " + (drawn + more) + ", drawn " + drawn, x.wave(1, 3), more);
                Edge.due("the other wave", x.wave(0, 3), 0);
            }
        }
        GuessFerry never = Edge.told("wave 1 0 0 0 0 0; shifts=0;");
        never.years(40);
        Edge.due("shifts of 0 in 40 years", never.wave(0, 3), 0);
        GuessFerry always = Edge.told("wave 1 0 0 0 0 0; shifts=100;");
        always.years(40);
        Edge.due("shifts of 100 in 40 years", always.wave(0, 3), 40);
        GuessFerry y = Edge.told("wave 0 8 0 0 0 0; wave 1 2 3 0 0 0; wave 0 0 7 0 0 0; party p 0 0;"
            + " shifts=if at-1<0 then 0 else if 1<at then 0 else 100;");
        y.go(0, y.count(15));
        for (int wave = 0; wave < 3; wave++) {
            y.buoy(wave, 5, true);
        }
        y.years(1);
        Edge.due("found of the shifted one", y.wave(1, 1), -2);
        Edge.due("buoys of the shifted one", y.wave(1, 2), 0);
        Edge.due("what may be of it", y.wave(1, 0), 7);
        Edge.due("found of the others", y.count(13), 5);
        Edge.due("buoys of the others", y.count(12), 2);
        Edge.due("the party stays over", y.party(0, 2), 2);
    }

    private static void asItBegan() {
        Edge.says("A YEAR, all by how it was as it began");
        // The wave shifts by its buoys once; they are gone in the years behind.
        GuessFerry x = Edge.told("wave 1 1 0 0 0 0; shifts=buoys*100;");
        x.buoy(0, 4, true);
        x.years(40);
        Edge.due("shifted by its buoys", x.wave(0, 3), 1);
        // By the year as it began: year 0 alone, for both waves.
        GuessFerry y = Edge.told("wave 1 1 0 0 0 0; wave 1 1 0 0 0 0; shifts=if year<1 then 100 else 0;");
        y.years(3);
        Edge.due("wave 0", y.wave(0, 3), 1);
        Edge.due("wave 1", y.wave(1, 3), 1);
        Edge.says("It is the next year.");
        Edge.due("no waves", new GuessFerry().years(1), 1);
        GuessFerry z = Edge.told("wave 1 0 0 0 0 0; needs=year; party p 0 0;");
        for (int year = 1; year <= 9; year++) {
            Edge.due("years(1)", z.years(1), year);
            Edge.due("needs by the year", z.needs(0, 0, 0), year);
        }
    }

    private static void byHand() {
        Edge.says("By hand: a PARTY GOES; a BUOY of a THING over a WAVE is laid, or taken up (true or not); a PARTY that"
            + " is LOST or OVER is HERE again; YEARS go by.");
        GuessFerry hand = Edge.told("wave 0 8 0 0 0 0; party p 0 0; dares=0;");
        Edge.due("it goes by hand though it dares not", hand.go(0, 1), 1);
        Edge.due("a buoy", hand.buoy(0, 2, true), true);
        Edge.due("here again", hand.fetch(0), true);
        Edge.due("a year", hand.years(1), 1);
        Edge.due("all four can be undone", hand.count(9), 4);
        Edge.says("a BUOY of a THING over a WAVE is laid, or taken up (true or not)");
        GuessFerry x = Edge.told("wave 0 8 0 0 0 0; party p 0 0; party q 9 0;");
        Edge.due("laid on what is there", x.buoy(0, 1, true), true);
        Edge.due("nothing may be", x.wave(0, 0), 0);
        Edge.due("taken up", x.buoy(0, 1, false), true);
        x.go(0, 3);
        Edge.due("one of a go taken up", x.buoy(0, 3, false), true);
        Edge.due("no buoys", x.count(12), 0);
        Edge.says("a PARTY that is LOST or OVER is HERE again");
        x.go(0, 1);
        x.go(1, 1);
        Edge.due("over", x.party(0, 2), 2);
        Edge.due("lost", x.party(1, 2), 1);
        Edge.due("fetch what is over", x.fetch(0), true);
        Edge.due("fetch what is lost", x.fetch(1), true);
        Edge.due("all here", x.count(4), 3);
    }
}
