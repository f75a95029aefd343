/** The edges of the calls: what each promise refuses, or answers where there is none, by a test of its own. */
public final class CallEdgesTest {
    /** Over wave 0 is thing 1 or 2, over wave 1 thing 4; party b dares not, nothing bears party c. */
    private static final String TEXT = "wave 0 5 5 0 0 0; wave 0 0 0 0 3 0; party a 0 1; party b 3 0; party c 9 1;"
        + " dares=nerve; fares=2+goes;";
    private static final int GUESSES = 36;
    private static final int BLANKS = 0x20202020;

    public static void main(String[] args) {
        newObject();
        feed();
        back();
        read();
        place();
        wave();
        oddsPartyNeeds();
        go();
        buoy();
        fetch();
        years();
        undo();
        casesAndAll();
        guesses();
        noCases();
        ranked();
        waveThings();
        sure();
        parties();
        allGo();
        ahead();
        tell();
        forget();
        believed();
        hold();
        restore();
        count();
        mostCalls();
        Edge.end("CallEdgesTest");
    }

    /** Over the first wave nothing may be. */
    private static GuessFerry withNoCases() {
        GuessFerry x = Edge.told(TEXT);
        x.buoy(0, 1, true);
        x.buoy(0, 2, true);
        return x;
    }

    private static void newObject() {
        Edge.says("No WAVES, no PARTIES.");
        GuessFerry x = new GuessFerry();
        for (int what = 0; what <= 18; what++) {
            Edge.due("count(" + what + ")", x.count(what), what == 14 ? 1 : 0);
        }
        Edge.due("wave(0, 0)", x.wave(0, 0), -1);
        Edge.due("party(0, 0)", x.party(0, 0), -1);
        GuessFerry other = new GuessFerry();
        other.years(3);
        other.feed(0, 0, 0, 0, 0);
        Edge.due("what another object does", Edge.state(x), Edge.state(new GuessFerry()));
    }

    private static void feed() {
        Edge.says("Twenty bytes, the highest of a first, come behind the tape: how many it has.");
        GuessFerry x = new GuessFerry();
        Edge.due("feed", x.feed(0x77617665, 0x20302031, 0x20322033, 0x20342035, 0x3b207365), 20);
        Edge.due("feed", x.feed(0x65642037, 0x3b202020, BLANKS, BLANKS, BLANKS), 40);
        Edge.due("read() of wave 0 1 2 3 4 5; seed 7;", x.read(), 0);
        for (int thing = 0; thing < 6; thing++) {
            Edge.due("odds(0, " + thing + ")", x.odds(0, thing), thing);
        }
        // Bytes above 127 come as they are.
        Edge.due("feed", x.feed(BLANKS, BLANKS, BLANKS, BLANKS, 0x202020ff), 20);
        Edge.due("read()", x.read(), 1);
        Edge.due("place()", x.place(), 19);
        Edge.says("NONE, and nothing comes, if it would have more than 2,000.");
        for (int i = 1; i <= 100; i++) {
            Edge.due("feed " + i, x.feed(BLANKS, BLANKS, BLANKS, BLANKS, BLANKS), 20 * i);
        }
        Edge.due("feed 101", x.feed(0, 0, 0, 0, 0), -1);
        Edge.due("count(8)", x.count(8), 2000);
        x.back(19);
        Edge.due("feed behind 1981", x.feed(0, 0, 0, 0, 0), -1);
        Edge.due("count(8)", x.count(8), 1981);
        x.back(1);
        Edge.due("feed behind 1980", x.feed(BLANKS, BLANKS, BLANKS, BLANKS, BLANKS), 2000);
        Edge.due("read() of blanks alone", x.read(), 0);
        Edge.due("feed behind read()", x.feed(0, 0, 0, 0, 0), 20);
    }

    private static void back() {
        Edge.says("The last n bytes of the tape go: how many it has.");
        GuessFerry x = new GuessFerry();
        Edge.due("back(0) of none", x.back(0), 0);
        Edge.feed(x, "seed 1; rest");
        Edge.due("back(0)", x.back(0), 12);
        Edge.due("back(4)", x.back(4), 8);
        Edge.due("back(8)", x.back(8), 0);
        Edge.says("NONE, and nothing goes, if it has not so many, or n is below 0.");
        Edge.due("back(1) of none", x.back(1), -1);
        Edge.feed(x, "seed 1;");
        for (int n : new int[] {8, 2001, Edge.MAX, -1, -7, Edge.MIN}) {
            Edge.due("back(" + n + ")", x.back(n), -1);
            Edge.due("count(8) behind back(" + n + ")", x.count(8), 7);
        }
        Edge.due("back(7)", x.back(7), 0);
    }

    private static void read() {
        Edge.says("The tape, which is empty then, is read: 0, or the number of its FAULT.");
        GuessFerry x = new GuessFerry();
        Edge.due("read() of none", x.read(), 0);
        String[] texts = {"seed 1;", "?", "wave 1 0 0 0 0 0;".repeat(6), "party p 1 1;party p 1 1;", "party p 10 1;"};
        int[] faults = {0, 1, 2, 3, 5};
        for (int i = 0; i < texts.length; i++) {
            Edge.feed(x, texts[i]);
            Edge.due("read() of " + texts[i], x.read(), faults[i]);
            Edge.due("the tape behind it", x.count(8), 0);
        }
    }

    private static void place() {
        Edge.says("The byte of the latest read()'s FAULT; NONE without.");
        GuessFerry x = new GuessFerry();
        Edge.due("without a read()", x.place(), -1);
        Edge.feed(x, "?");
        Edge.due("ahead of read()", x.place(), -1);
        x.read();
        Edge.due("at the first byte", x.place(), 0);
        Edge.feed(x, "party p 1 1;party p 1 1;");
        Edge.due("of the latest read()", x.place(), 0);
        x.read();
        Edge.due("of the latest read()", x.place(), 18);
        x.years(1);
        x.undo();
        Edge.due("behind other calls", x.place(), 18);
        Edge.due("read() of none", x.read(), 0);
        Edge.due("without a fault", x.place(), -1);
    }

    private static void wave() {
        Edge.says("Of a WAVE: what 0 THINGS that MAY be there (bits)");
        for (int thing = 0; thing < 6; thing++) {
            GuessFerry one = Edge.told("wave 1 1 1 1 1 1; wave " + "0 ".repeat(thing) + "9" + " 0".repeat(5 - thing) + ";");
            Edge.due("the one thing " + thing, one.wave(1, 0), 1 << thing);
            one.buoy(0, thing, true);
            Edge.due("all but thing " + thing, one.wave(0, 0), 63 - (1 << thing));
        }
        Edge.says("2 BUOYS (bits)");
        GuessFerry laid = Edge.told("wave 1 1 1 1 1 1; wave 0 0 9 0 0 0;");
        for (int thing = 0; thing < 6; thing++) {
            laid.buoy(1, thing, true);
            Edge.due("buoys up to " + thing, laid.wave(1, 2), (2 << thing) - 1);
        }
        Edge.due("of the other wave", laid.wave(0, 2), 0);
        Edge.says("1 the one FOUND (-2: none)");
        GuessFerry x = Edge.told(TEXT);
        Edge.due("none found", x.wave(1, 1), -2);
        x.go(0, x.count(15));
        Edge.due("found", x.wave(1, 1), 4);
        GuessFerry first = Edge.told("wave 3 0 0 0 0 0; party p 0 0;");
        first.go(0, 0);
        Edge.due("thing 0 found", first.wave(0, 1), 0);
        Edge.says("3 how often it shifted, 4 what is THERE, 5 SHIFTS now. NONE for others.");
        for (int wave = 0; wave < 2; wave++) {
            int of = wave;
            Edge.only(0, 5, "wave(" + wave + ", what)", what -> x.wave(of, what));
        }
        for (int what = 0; what <= 5; what++) {
            int of = what;
            Edge.only(0, 1, "wave(wave, " + what + ")", wave -> x.wave(wave, of));
        }
    }

    private static void oddsPartyNeeds() {
        GuessFerry x = Edge.told(TEXT);
        Edge.says("ODDS of a THING over a WAVE; NONE: no such ones.");
        Edge.only(0, 5, "odds(0, thing)", thing -> x.odds(0, thing));
        Edge.only(0, 5, "odds(1, thing)", thing -> x.odds(1, thing));
        Edge.only(0, 1, "odds(wave, 0)", wave -> x.odds(wave, 0));
        Edge.says("Of a PARTY: what 0 HEAVY, 1 NERVE, 2: 0 HERE, 1 LOST, 2 OVER");
        GuessFerry y = Edge.told("wave 0 8 0 0 0 0; party a 0 9; party b 9 0; party c 8 7;");
        y.go(1, 1);
        y.go(2, 1);
        int[][] due = {{0, 9, 0}, {9, 0, 1}, {8, 7, 2}};
        for (int party = 0; party < 3; party++) {
            for (int what = 0; what < 3; what++) {
                Edge.due("party(" + party + ", " + what + ")", y.party(party, what), due[party][what]);
            }
        }
        Edge.says("3 how often it went, 4 FARES, 5: 1 DARES, else 0, now. NONE for others.");
        Edge.only(0, 5, "party(0, what)", what -> x.party(0, what));
        for (int what = 0; what <= 5; what++) {
            int of = what;
            Edge.only(0, 2, "party(party, " + what + ")", party -> x.party(party, of));
        }
        Edge.says("NEEDS of a PARTY, a WAVE and a THING now; NONE: no such ones.");
        Edge.only(0, 2, "needs(party, 0, 0)", party -> x.needs(party, 0, 0));
        Edge.only(0, 1, "needs(0, wave, 0)", wave -> x.needs(0, wave, 0));
        Edge.only(0, 5, "needs(0, 0, thing)", thing -> x.needs(0, 0, thing));
        Edge.due("no waves", Edge.told("party p 0 0;").needs(0, 0, 0), -1);
        Edge.due("no parties", Edge.told("wave 1 0 0 0 0 0;").needs(0, 0, 0), -1);
    }

    private static void refusedGo(GuessFerry x, int party, int guess) {
        Edge.refused("go(" + party + ", " + guess + ")", x, -1, y -> y.go(party, guess));
    }

    private static void go() {
        Edge.says("It GOES: over how many WAVES it came (all: it is OVER); NONE, and nothing happens: not HERE, no WAVES,"
            + " no such ones.");
        int there = Edge.told(TEXT).count(15);
        for (int party : new int[] {-1, 3, 6, Edge.MIN, Edge.MAX}) {
            refusedGo(Edge.told(TEXT), party, there);
        }
        for (int guess : new int[] {-1, GUESSES, GUESSES + there, Edge.MIN, Edge.MAX}) {
            refusedGo(Edge.told(TEXT), 0, guess);
        }
        GuessFerry x = Edge.told(TEXT);
        Edge.due("the least guess", x.go(0, 0), 0);
        Edge.due("the greatest guess", x.go(0, GUESSES - 1), 0);
        Edge.due("over", x.go(0, there), 2);
        refusedGo(x, 0, there);
        Edge.due("lost", x.go(2, there), 0);
        refusedGo(x, 2, there);
        refusedGo(Edge.told("party p 0 0;"), 0, 0);
        refusedGo(new GuessFerry(), 0, 0);
    }

    private static void refusedBuoy(GuessFerry x, int wave, int thing, boolean laid) {
        String call = "buoy(" + wave + ", " + thing + ", " + laid + ")";
        Edge.refused(call, x, 0, y -> y.buoy(wave, thing, laid) ? 1 : 0);
    }

    private static void buoy() {
        Edge.says("A BUOY is laid, or taken up: true; false, and nothing happens: it is so, no such ones.");
        GuessFerry x = Edge.told(TEXT);
        refusedBuoy(x, 0, 0, false);
        Edge.due("buoy(0, 0, true)", x.buoy(0, 0, true), true);
        refusedBuoy(x, 0, 0, true);
        Edge.due("buoy(1, 5, true)", x.buoy(1, 5, true), true);
        Edge.due("buoy(0, 0, false)", x.buoy(0, 0, false), true);
        refusedBuoy(x, 0, 0, false);
        for (int thing : new int[] {-1, 6, 32, Edge.MIN, Edge.MAX}) {
            refusedBuoy(Edge.told(TEXT), 0, thing, true);
            refusedBuoy(Edge.told(TEXT), 0, thing, false);
        }
        for (int wave : new int[] {-1, 2, 5, Edge.MIN, Edge.MAX}) {
            refusedBuoy(Edge.told(TEXT), wave, 0, true);
            refusedBuoy(Edge.told(TEXT), wave, 0, false);
        }
    }

    private static void fetch() {
        Edge.says("It is HERE again: true; false, and nothing happens: it is, no such PARTY.");
        for (int party : new int[] {0, -1, 3, 6, Edge.MIN, Edge.MAX}) {
            Edge.refused("fetch(" + party + ")", Edge.told(TEXT), 0, x -> x.fetch(party) ? 1 : 0);
        }
        GuessFerry x = Edge.told(TEXT);
        x.go(2, 0);
        Edge.due("fetch(2)", x.fetch(2), true);
        Edge.due("things that can be undone", x.count(9), 2);
        Edge.refused("fetch(2) again", x, 0, y -> y.fetch(2) ? 1 : 0);
        // Let down, it is here.
        x.go(0, 0);
        Edge.refused("fetch(0)", x, 0, y -> y.fetch(0) ? 1 : 0);
    }

    private static void years() {
        Edge.says("n YEARS (0 .. 40; 0 is no thing done) go by: which it is; NONE, and nothing happens: no such n.");
        for (int n : new int[] {-1, 41, 64, Edge.MIN, Edge.MAX}) {
            Edge.refused("years(" + n + ")", Edge.told(TEXT + "shifts=50;"), -1, x -> x.years(n));
        }
        GuessFerry x = Edge.told(TEXT + "shifts=50;");
        Edge.due("years(0)", x.years(0), 0);
        Edge.due("things that can be undone", x.count(9), 0);
        Edge.due("years(40)", x.years(40), 40);
        Edge.due("things that can be undone", x.count(9), 1);
        Edge.due("years(1)", x.years(1), 41);
        Edge.due("years(0)", x.years(0), 41);
        Edge.due("things that can be undone", x.count(9), 2);
    }

    private static void undo() {
        Edge.says("The last thing done (go, buoy, fetch, years) is undone: true; false: there is none (the last 40 can"
            + " be).");
        GuessFerry x = Edge.told(TEXT);
        Edge.due("undo() of none", x.undo(), false);
        // What is refused, told, held, fed or looked at is no thing done.
        x.go(9, 0);
        x.buoy(0, 0, false);
        x.fetch(0);
        x.years(0);
        x.tell(0, 1, true);
        x.hold(0);
        x.feed(BLANKS, BLANKS, BLANKS, BLANKS, BLANKS);
        x.allGo(0);
        Edge.due("undo() of none", x.undo(), false);
        for (int things = 39; things <= 41; things++) {
            undoAll(things);
        }
        undoEach();
    }

    private static void undoAll(int things) {
        GuessFerry x = Edge.told(TEXT);
        for (int i = 0; i < things; i++) {
            x.years(1);
        }
        int most = Math.min(40, things);
        Edge.due("count(9) of " + things, x.count(9), most);
        for (int i = 1; i <= most; i++) {
            Edge.due("undo() " + i + " of " + things, x.undo(), true);
            Edge.due("the year behind it", x.count(2), things - i);
        }
        Edge.due("one undo() more of " + things, x.undo(), false);
        Edge.due("the year behind it", x.count(2), things - most);
    }

    private static void undoEach() {
        for (int i = 0; i < 6; i++) {
            GuessFerry x = Edge.told(TEXT + "shifts=60;");
            for (int j = 0; j < i; j++) {
                doThing(x, j);
            }
            String ahead = Edge.state(x);
            doThing(x, i);
            Edge.due("thing " + i + " changes nothing", Edge.state(x).equals(ahead), false);
            Edge.due("undo() of thing " + i, x.undo(), true);
            Edge.due("undo() of thing " + i, Edge.state(x), ahead);
        }
    }

    private static void doThing(GuessFerry x, int i) {
        switch (i) {
            case 0: x.go(0, 0); break;
            case 1: x.go(0, x.count(15)); break;
            case 2: x.go(2, 0); break;
            case 3: x.fetch(0); break;
            case 4: x.buoy(1, 0, true); break;
            default: x.years(7); break;
        }
    }

    private static void casesAndAll() {
        Edge.says("CASES (no WAVES: 1).");
        Edge.due("no waves", new GuessFerry().cases(), 1);
        Edge.due("no waves, a party", Edge.told("party p 1 1;").cases(), 1);
        Edge.says("ALL (no WAVES: 1).");
        Edge.due("no waves", new GuessFerry().all(), 1);
        Edge.due("no waves, a party", Edge.told("party p 1 1;").all(), 1);
    }

    private static void guesses() {
        GuessFerry x = Edge.told(TEXT);
        Edge.says("ODDS of a GUESS; NONE: no such GUESS.");
        Edge.only(0, GUESSES - 1, "chance(guess)", x::chance);
        Edge.only(0, 0, "chance(guess) of no waves", new GuessFerry()::chance);
        Edge.says("BEARS; NONE: no such ones.");
        Edge.only(0, GUESSES - 1, "bears(0, guess)", guess -> x.bears(0, guess));
        Edge.only(0, 2, "bears(party, 0)", party -> x.bears(party, 0));
        Edge.says("LEFT; -2: no CASES; NONE: no such GUESS.");
        Edge.only(0, GUESSES - 1, "left(guess)", x::left);
        Edge.only(0, GUESSES - 1, "left(guess) of no cases", withNoCases()::left);
        Edge.due("left(0) of no cases", withNoCases().left(0), -2);
        Edge.says("RANK; -2: it is no CASE; NONE: no such GUESS.");
        Edge.only(0, GUESSES - 1, "rank(guess)", x::rank);
        Edge.due("rank of what may not be over the first", x.rank(Edge.guess(0, 4)), -2);
        Edge.due("rank of what may not be over the last", x.rank(Edge.guess(1, 3)), -2);
        Edge.due("rank of a case", x.rank(Edge.guess(2, 4)), 1);
        Edge.due("rank with no cases", withNoCases().rank(Edge.guess(1, 4)), -2);
        Edge.says("ALIKE; NONE: no such ones.");
        Edge.only(0, GUESSES - 1, "alike(guess, 0)", guess -> x.alike(guess, 0));
        Edge.only(0, GUESSES - 1, "alike(0, guess)", guess -> x.alike(0, guess));
        Edge.due("alike(36, 36)", x.alike(36, 36), -1);
        Edge.says("SUNK (bits); NONE: no such GUESS.");
        Edge.only(0, GUESSES - 1, "sunk(guess)", x::sunk);
        Edge.due("no parties", Edge.told("wave 1 0 0 0 0 0;").sunk(5), 0);
        Edge.says("YEAR; NONE: no such ones.");
        Edge.only(0, GUESSES - 1, "year(guess, 1)", guess -> x.year(guess, 1));
        Edge.only(1, 20, "year(0, s)", s -> x.year(0, s));
    }

    private static void noCases() {
        Edge.says("LIKELIEST; -2: no CASES.");
        Edge.due("likeliest()", withNoCases().likeliest(), -2);
        Edge.due("no waves", new GuessFerry().likeliest(), 0);
        Edge.says("SAFEST; -2: none; NONE: no such PARTY.");
        GuessFerry x = Edge.told(TEXT);
        Edge.only(0, 2, "safest(party)", x::safest);
        Edge.due("of whom nothing bears", x.safest(2), -2);
        Edge.due("with no cases", withNoCases().safest(0), -2);
        Edge.due("no waves", Edge.told("party p 9 9;").safest(0), 0);
        Edge.says("ENOUGH; -2: no CASES.");
        Edge.due("enough()", withNoCases().enough(), -2);
        Edge.due("no waves", new GuessFerry().enough(), 1);
        Edge.says("WISEST: what 0 which, 1 how many are left; -2: no CASES. NONE for others.");
        Edge.only(0, 1, "wisest(what)", x::wisest);
        Edge.only(0, 1, "wisest(what) of no cases", withNoCases()::wisest);
        Edge.due("wisest(0) of no cases", withNoCases().wisest(0), -2);
        Edge.due("wisest(1) of no cases", withNoCases().wisest(1), -2);
    }

    private static void ranked() {
        Edge.says("The i-th CASE by RANK; NONE: no such i (0 .. 19), not so many.");
        GuessFerry many = Edge.told("wave 1 1 1 1 1 1; wave 1 1 1 1 0 0;");
        Edge.only(0, 19, "ranked(i) of 24", many::ranked);
        GuessFerry two = Edge.told(TEXT);
        Edge.only(0, 1, "ranked(i) of 2", two::ranked);
        Edge.due("with no cases", withNoCases().ranked(0), -1);
        Edge.only(0, 0, "ranked(i) of no waves", new GuessFerry()::ranked);
        GuessFerry twenty = Edge.told("wave 1 1 1 1 1 0; wave 1 1 1 1 0 0;");
        Edge.due("the last of 20", twenty.ranked(19), Edge.guess(4, 3));
        twenty.buoy(0, 0, true);
        Edge.due("the 19th of 16", twenty.ranked(19), -1);
        Edge.due("the 15th of 16", twenty.ranked(15), Edge.guess(4, 3));
    }

    private static void waveThings() {
        GuessFerry x = Edge.told(TEXT);
        Edge.says("SHARE; NONE: no such ones.");
        Edge.only(0, 1, "share(wave, 0)", wave -> x.share(wave, 0));
        Edge.only(0, 5, "share(0, thing)", thing -> x.share(0, thing));
        Edge.says("Of THINGS that MAY be over a WAVE: greatest ODDS less least ODDS (none: 0); NONE: no such WAVE.");
        Edge.only(0, 1, "spread(wave)", x::spread);
        Edge.due("nothing may be", withNoCases().spread(0), 0);
        Edge.due("one thing", x.spread(1), 0);
        GuessFerry y = Edge.told("wave 0 1 9 5 0 0; wave 0 0 9 9 0 0;");
        Edge.due("odds of 0 are none of it", y.spread(0), 8);
        Edge.due("alike ones", y.spread(1), 0);
        y.buoy(0, 2, true);
        Edge.due("but for a buoy's", y.spread(0), 4);
        GuessFerry five = Edge.told("wave 9 5 5 5 5 5;".repeat(4) + "wave 5 5 5 5 5 7;");
        Edge.due("by the first thing", five.spread(0), 4);
        Edge.due("by the last thing of the last wave", five.spread(4), 2);
        Edge.says("IN n YEARS of a WAVE: what 0 THINGS that MAY be (bits), 1 how often it shifted, 2 what is THERE; NONE:"
            + " no such ones.");
        Edge.only(0, 1, "then(wave, 0, 0)", wave -> x.then(wave, 0, 0));
        Edge.only(0, 40, "then(0, n, 0)", n -> x.then(0, n, 0));
        Edge.only(0, 2, "then(0, 0, what)", what -> x.then(0, 0, what));
        Edge.only(0, 2, "then(1, 40, what)", what -> x.then(1, 40, what));
        Edge.says("DRAWN; NONE: no such ones.");
        Edge.only(0, 1, "drawn(wave, 1)", wave -> x.drawn(wave, 1));
        Edge.only(1, 20, "drawn(0, s)", s -> x.drawn(0, s));
    }

    private static void sure() {
        Edge.says("SURE; NONE: not HERE, no WAVES, no such ones.");
        GuessFerry x = Edge.told(TEXT);
        Edge.only(1, 8, "sure(0, n)", n -> x.sure(0, n));
        Edge.only(0, 2, "sure(party, 1)", party -> x.sure(party, 1));
        x.go(0, x.count(15));
        x.go(2, 0);
        Edge.due("over", x.sure(0, 1), -1);
        Edge.due("lost", x.sure(2, 1), -1);
        x.fetch(0);
        Edge.due("here again", x.sure(0, 1), 15);
        Edge.due("no waves", Edge.told("party p 0 0;").sure(0, 1), -1);
    }

    private static void parties() {
        Edge.says("PARTIES HERE that have no SAFEST (bits).");
        GuessFerry x = Edge.told(TEXT);
        Edge.due("stuck()", x.stuck(), 4);
        Edge.due("with no cases", withNoCases().stuck(), 7);
        x.go(2, 0);
        Edge.due("not one that is lost", x.stuck(), 0);
        Edge.due("no waves", Edge.told("party p 9 9;").stuck(), 0);
        Edge.says("DEAREST: what 0 who, 1 how much; -2: no PARTIES. NONE for others.");
        Edge.only(0, 1, "dearest(what)", x::dearest);
        GuessFerry none = Edge.told("wave 1 0 0 0 0 0;");
        Edge.only(0, 1, "dearest(what) of no parties", none::dearest);
        Edge.due("dearest(0) of no parties", none.dearest(0), -2);
        Edge.due("dearest(1) of no parties", none.dearest(1), -2);
        Edge.says("CHOSEN; -2: none.");
        Edge.due("no parties", none.chosen(), -2);
        Edge.due("with no cases", withNoCases().chosen(), -2);
        Edge.due("nothing bears", Edge.told("wave 1 0 0 0 0 0; party p 9 0;").chosen(), -2);
        GuessFerry y = Edge.told("wave 1 0 0 0 0 0; party p 0 0;");
        Edge.due("one", y.chosen(), 0);
        y.go(0, 0);
        Edge.due("it is over", y.chosen(), -2);
        Edge.says("DARERS (bits).");
        Edge.due("darers()", Edge.told(TEXT).darers(), 5);
        Edge.due("no parties", none.darers(), 0);
        Edge.says("OPEN (bits).");
        Edge.due("open()", Edge.told(TEXT).open(), 1);
        Edge.due("no waves", new GuessFerry().open(), 0);
    }

    private static void allGo() {
        Edge.says("ALL GO: what 0 how many are OVER, 1 LOST, 2 what is paid in doing so. NONE for others.");
        GuessFerry x = Edge.told(TEXT);
        Edge.only(0, 2, "allGo(what)", x::allGo);
        Edge.only(0, 2, "allGo(what) of none", new GuessFerry()::allGo);
        x.go(1, Edge.guess(1, 4));
        int paid = x.count(3);
        Edge.due("paid ahead", paid, 2);
        Edge.due("paid in doing so", x.allGo(2), 2);
    }

    private static void ahead() {
        Edge.says("NEXT; -2: not; NONE: no such WAVE.");
        GuessFerry x = Edge.told(TEXT + "shifts=at*100;");
        Edge.only(0, 1, "next(wave)", x::next);
        Edge.due("next(0)", x.next(0), -2);
        Edge.due("next(1)", x.next(1), 1);
    }

    private static void tell() {
        Edge.says("It is TOLD: its number; NONE, and nothing happens: 20 are there, no such ones.");
        GuessFerry x = Edge.told(TEXT);
        for (int wave : new int[] {-1, 2, Edge.MIN, Edge.MAX}) {
            Edge.due("tell(" + wave + ", 1, true)", x.tell(wave, 1, true), -1);
        }
        for (int things : new int[] {0, -1, 64, 65, 127, Edge.MIN, Edge.MAX}) {
            Edge.due("tell(0, " + things + ", false)", x.tell(0, things, false), -1);
        }
        Edge.due("count(10)", x.count(10), 0);
        Edge.due("tell(0, 1, true)", x.tell(0, 1, true), 0);
        Edge.due("tell(1, 63, true)", x.tell(1, 63, true), 1);
        for (int i = 2; i < 20; i++) {
            Edge.due("tell " + i, x.tell(1, 16, true), i);
        }
        Edge.due("fit(20, 1, 0)", x.fit(20, 1, 0), 2);
        Edge.due("a 21st", x.tell(1, 16, false), -1);
        Edge.due("count(10)", x.count(10), 20);
        Edge.due("fit(20, 1, 0)", x.fit(20, 1, 0), 2);
        Edge.due("no waves", new GuessFerry().tell(0, 1, true), -1);
    }

    private static void forget() {
        Edge.says("All that was TOLD is forgotten: how many there were.");
        GuessFerry x = Edge.told(TEXT);
        Edge.due("none", x.forget(), 0);
        x.tell(0, 2, true);
        x.tell(0, 2, true);
        Edge.due("two", x.forget(), 2);
        Edge.due("count(10)", x.count(10), 0);
        Edge.due("none", x.forget(), 0);
        Edge.due("fit(1, 0, 0)", x.fit(1, 0, 0), -1);
        Edge.due("numbered from 0 on", x.tell(0, 4, true), 0);
        for (int i = 1; i < 20; i++) {
            x.tell(0, 4, true);
        }
        Edge.due("twenty", x.forget(), 20);
        Edge.due("room again", x.tell(0, 4, true), 0);
    }

    private static void believed() {
        GuessFerry x = Edge.told(TEXT);
        x.tell(0, 2, true);
        x.tell(0, 4, true);
        x.tell(0, 1, true);
        Edge.says("FIT by l, as KNOWN by k: what 0 how many, 1 their ODDS, added; NONE: no such ones.");
        Edge.only(0, 3, "fit(k, 0, 0)", k -> x.fit(k, 0, 0));
        Edge.only(0, 3, "fit(3, l, 0)", l -> x.fit(3, l, 0));
        Edge.only(0, 1, "fit(3, 0, what)", what -> x.fit(3, 0, what));
        Edge.says("LIE by l, as KNOWN by k (none FIT: all that is KNOWN); NONE: no such ones.");
        Edge.only(0, 3, "lie(k, 0)", k -> x.lie(k, 0));
        Edge.only(0, 3, "lie(3, l)", l -> x.lie(3, l));
        Edge.due("none fit", x.lie(2, 0), 3);
        Edge.due("none fit", x.lie(3, 1), 7);
        Edge.due("some fit", x.lie(3, 2), 4);
        GuessFerry none = withNoCases();
        none.tell(1, 16, true);
        none.tell(0, 2, true);
        Edge.due("no cases", none.lie(2, 3), 3);
        Edge.due("no cases, nothing known", none.lie(0, 3), 0);
        Edge.says("ASK by l, as KNOWN by k; -2: none FIT, no WAVES; NONE: no such ones.");
        Edge.only(0, 3, "ask(k, 0)", k -> x.ask(k, 0));
        Edge.only(0, 3, "ask(3, l)", l -> x.ask(3, l));
        Edge.due("none fit", x.ask(2, 0), -2);
        Edge.due("no cases", none.ask(2, 3), -2);
        Edge.due("no waves", new GuessFerry().ask(0, 0), -2);
        Edge.due("no waves, no such k", new GuessFerry().ask(1, 0), -1);
    }

    private static void hold() {
        Edge.says("All that goes on (not what is TOLD, nor the tape) is held in a SLOT (0 .. 2): true; false: no such one.");
        GuessFerry x = Edge.told(TEXT + "shifts=70;");
        for (int slot : new int[] {-1, 3, Edge.MIN, Edge.MAX}) {
            Edge.due("hold(" + slot + ")", x.hold(slot), false);
        }
        Edge.due("count(11)", x.count(11), 0);
        x.go(0, x.count(15));
        x.go(2, 0);
        x.years(3);
        x.buoy(1, 3, true);
        for (int slot = 0; slot < 3; slot++) {
            Edge.due("hold(" + slot + ")", x.hold(slot), true);
            Edge.due("count(11)", x.count(11), slot + 1);
        }
        Edge.due("hold(0) again", x.hold(0), true);
        Edge.due("count(11)", x.count(11), 3);
        Edge.due("what can be undone stays", x.count(9), 4);
        x.tell(0, 2, true);
        x.feed(BLANKS, BLANKS, BLANKS, BLANKS, BLANKS);
        x.fetch(2);
        x.restore(0);
        Edge.due("what is told is not held", x.count(10), 1);
        Edge.due("nor the tape", x.count(8), 20);
        Edge.due("parties", x.count(5), 4);
        // A slot that is full takes what goes on now.
        x.fetch(0);
        x.hold(1);
        x.restore(2);
        Edge.due("slot 2", x.count(6), 1);
        x.restore(1);
        Edge.due("slot 1", x.count(6), 0);
    }

    private static void restore() {
        Edge.says("It goes on from what a SLOT holds (that stays there; nothing can be undone then): true; false, and"
            + " nothing happens: no such one, nothing is held.");
        GuessFerry x = Edge.told(TEXT);
        x.years(2);
        x.hold(1);
        x.years(5);
        for (int slot : new int[] {0, 2, -1, 3, Edge.MIN, Edge.MAX}) {
            Edge.due("restore(" + slot + ")", x.restore(slot), false);
            Edge.due("the year", x.count(2), 7);
            Edge.due("what can be undone", x.count(9), 2);
        }
        Edge.due("restore(1)", x.restore(1), true);
        Edge.due("the year", x.count(2), 2);
        Edge.due("what can be undone", x.count(9), 0);
        Edge.due("undo()", x.undo(), false);
        x.years(1);
        x.go(0, 0);
        Edge.due("what can be undone from then on", x.count(9), 2);
        Edge.due("restore(1) again", x.restore(1), true);
        Edge.due("the year", x.count(2), 2);
        Edge.due("goes", x.count(7), 0);
        Edge.due("it stays there", x.count(11), 1);
    }

    private static void count() {
        Edge.says("0 WAVES, 1 PARTIES, 2 the year");
        for (int waves = 0; waves <= 5; waves++) {
            for (int parties = 0; parties <= 6; parties++) {
                StringBuilder text = new StringBuilder("wave 1 0 0 0 0 0;".repeat(waves));
                for (int party = 0; party < parties; party++) {
                    text.append("party ").append((char) ('a' + party)).append(" 0 0;");
                }
                GuessFerry y = Edge.told(text.toString());
                y.years(waves + parties);
                Edge.due("count(0) of " + waves, y.count(0), waves);
                Edge.due("count(1) of " + parties, y.count(1), parties);
                Edge.due("count(2)", y.count(2), waves + parties);
            }
        }
        Edge.says("17 WAVES over which nothing MAY be (bits), 18 FARES of all PARTIES HERE, added. NONE for others.");
        GuessFerry x = Edge.told(TEXT);
        Edge.only(0, 18, "count(what)", x::count);
        Edge.only(0, 18, "count(what) of a new object", new GuessFerry()::count);
        Edge.due("count(17)", withNoCases().count(17), 1);
        Edge.due("count(18)", x.count(18), 6);
        x.go(2, 0);
        Edge.due("count(18) but for one lost", x.count(18), 4);
        Edge.says("4 PARTIES HERE, 5 LOST, 6 OVER (bits)");
        x.go(0, x.count(15));
        Edge.due("count(4)", x.count(4), 2);
        Edge.due("count(5)", x.count(5), 4);
        Edge.due("count(6)", x.count(6), 1);
        Edge.says("14 GUESSES that there are, 15 the number of what is THERE over all WAVES");
        Edge.due("count(14) of no waves", new GuessFerry().count(14), 1);
        Edge.due("count(15) of no waves", new GuessFerry().count(15), 0);
        Edge.due("count(14) of five", Edge.told("wave 0 0 0 0 0 1;".repeat(5)).count(14), 7776);
        Edge.due("count(15) of five", Edge.told("wave 0 0 0 0 0 1;".repeat(5)).count(15), 7775);
        Edge.says("8 bytes on the tape, 9 things that can be undone, 10 TOLD ones, 11 SLOTS that hold something");
        x.feed(0, 0, 0, 0, 0);
        x.back(3);
        x.tell(0, 1, true);
        x.hold(2);
        Edge.due("count(8)", x.count(8), 17);
        Edge.due("count(9)", x.count(9), 2);
        Edge.due("count(10)", x.count(10), 1);
        Edge.due("count(11)", x.count(11), 1);
        countsOfMost();
    }

    /** As many waves and parties as can be: each of them counts. */
    private static void countsOfMost() {
        GuessFerry x = Edge.told("wave 0 0 0 0 0 1;".repeat(5) + "party a 0 0;party b 0 0;party c 0 0;party d 0 0;"
            + "party e 0 0;party f 0 0;shifts=100;fares=1+which;");
        Edge.says("18 FARES of all PARTIES HERE, added");
        Edge.due("count(18) of six", x.count(18), 21);
        Edge.says("7 how often any went so far");
        for (int party = 0; party < 6; party++) {
            x.go(party, party == 5 ? 0 : 7775);
        }
        x.go(5, 0);
        Edge.due("count(7)", x.count(7), 7);
        Edge.says("3 what was paid so far");
        Edge.due("count(3)", x.count(3), 21 + 6);
        Edge.due("count(4)", x.count(4), 32);
        Edge.due("count(6)", x.count(6), 31);
        Edge.says("12 BUOYS that lie, 13 WAVES FOUND (bits)");
        Edge.due("count(13)", x.count(13), 31);
        x.buoy(4, 5, true);
        Edge.due("count(12)", x.count(12), 2);
        Edge.says("16 how often any WAVE shifted so far");
        x.years(2);
        Edge.due("count(16)", x.count(16), 10);
        Edge.due("count(12) behind shifts", x.count(12), 0);
        Edge.due("count(13) behind shifts", x.count(13), 0);
        Edge.says("17 WAVES over which nothing MAY be (bits)");
        for (int wave = 0; wave < 5; wave++) {
            x.buoy(wave, 5, true);
            Edge.due("count(17) of " + wave, x.count(17), (2 << wave) - 1);
        }
    }

    private static void mostCalls() {
        Edge.says("An object is used for at most 512 calls after it has been made");
        GuessFerry x = new GuessFerry();
        for (int call = 1; call < 512; call++) {
            Edge.due("years(40), call " + call, x.years(40), 40 * call);
        }
        Edge.due("the 512th call", x.count(2), 40 * 511);
        GuessFerry y = Edge.told("wave 1 0 0 0 0 0; party p 0 0; fares=99;");
        for (int i = 1; i <= 500; i++) {
            y.go(0, 1);
        }
        Edge.due("paid by 500 goes", y.count(3), 99 * 500);
        Edge.due("500 goes", y.party(0, 3), 500);
        Edge.due("things that can be undone", y.count(9), 40);
    }
}
