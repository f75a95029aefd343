import java.util.Arrays;

/**
 * A sound crossed by guessing what is on the other side. The document ../shared/DOC.md says what
 * each call answers; the words that it writes in capitals are the names used here.
 *
 * All rows are made with the object and used again: a call makes no object.
 */
public final class GuessFerry {
    public static final int NONE = -1;

    /** What a call answers whose arguments are fine, but that has nothing to tell. */
    private static final int NOTHING = -2;

    private static final int TAPE_ROOM = 2000;
    private static final int THINGS = 6;
    private static final int ALL_THINGS = 63;
    private static final int MOST_WAVES = 5;
    private static final int MOST_PARTIES = 6;
    private static final int MOST_ODDS = 9;
    private static final int MOST_HEAVY = 9;
    private static final int MOST_NERVE = 9;
    private static final int MOST_SEED = 9999;
    private static final int MOST_NEEDS = 9;
    private static final int MOST_FARES = 99;
    private static final int MOST_SHIFTS = 100;
    private static final int MOST_UNDONE = 40;
    private static final int SLOTS = 3;
    private static final int MOST_YEARS = 40;
    private static final int MOST_GOES = 8;
    private static final int MOST_SEEDS = 20;
    private static final int MOST_RANKED = 20;
    private static final int MOST_TOLD = 20;
    private static final int MOST_LIES = 3;

    private static final int HERE = 0;
    private static final int LOST = 1;
    private static final int OVER = 2;

    private static final int NEEDS = 0;
    private static final int FARES = 1;
    private static final int DARES = 2;
    private static final int SHIFTS = 3;
    private static final int LAWS = 4;

    private static final int VAR_AT = 0;
    private static final int VAR_ODDS = 1;
    private static final int VAR_HEAVY = 2;
    private static final int VAR_NERVE = 3;
    private static final int VAR_LEFT = 4;
    private static final int VAR_YEAR = 5;
    private static final int VAR_WHICH = 6;
    private static final int VAR_BUOYS = 7;
    private static final int VAR_GOES = 8;
    private static final int VARS = 9;

    private final Tape tape = new Tape();
    private final Sound sound = new Sound();
    private final Reader reader = new Reader(tape);
    private final Standing now = new Standing();
    private final Standing trial = new Standing();
    private final Past past = new Past();
    private final Crossing crossing = new Crossing(sound);
    private final Outlook outlook = new Outlook(sound, crossing);
    private final Tellers tellers = new Tellers(sound, crossing);

    public GuessFerry() {
        now.startOver();
    }

    // ---- the text ----

    public int feed(int a, int b, int c, int d, int e) {
        if (!tape.hasRoomFor(20)) {
            return NONE;
        }
        tape.addFour(a);
        tape.addFour(b);
        tape.addFour(c);
        tape.addFour(d);
        tape.addFour(e);
        return tape.length;
    }

    public int back(int n) {
        if (n < 0 || n > tape.length) {
            return NONE;
        }
        tape.length -= n;
        return tape.length;
    }

    public int read() {
        int fault = reader.readTape();
        tape.length = 0;
        if (fault == 0) {
            sound.copyFrom(reader.draft);
            now.startOver();
            past.forgetAll();
            tellers.told = 0;
        }
        return fault;
    }

    public int place() {
        return reader.faultPlace;
    }

    // ---- what is told and what goes on ----

    public int wave(int wave, int what) {
        if (!sound.hasWave(wave)) {
            return NONE;
        }
        switch (what) {
            case 0: return crossing.mayBe(now, wave);
            case 1: return now.found[wave] == NONE ? NOTHING : now.found[wave];
            case 2: return now.buoys[wave];
            case 3: return now.shifted[wave];
            case 4: return crossing.thereNow(now, wave);
            case 5: return crossing.shiftsOf(now, wave);
            default: return NONE;
        }
    }

    public int odds(int wave, int thing) {
        return sound.hasWave(wave) && isThing(thing) ? sound.oddsAt(wave, thing) : NONE;
    }

    public int party(int party, int what) {
        if (!sound.hasParty(party)) {
            return NONE;
        }
        switch (what) {
            case 0: return sound.heavy[party];
            case 1: return sound.nerve[party];
            case 2: return now.status[party];
            case 3: return now.goes[party];
            case 4: return crossing.fareOf(now, party);
            case 5: return crossing.isDaring(now, party) ? 1 : 0;
            default: return NONE;
        }
    }

    public int needs(int party, int wave, int thing) {
        if (!sound.hasParty(party) || !sound.hasWave(wave) || !isThing(thing)) {
            return NONE;
        }
        return crossing.needOf(now, party, wave, thing);
    }

    // ---- what is done by hand ----

    public int go(int party, int guess) {
        if (!isHere(party) || sound.waves == 0 || !sound.hasGuess(guess)) {
            return NONE;
        }
        past.remember(now);
        return crossing.sendBy(now, party, guess);
    }

    public boolean buoy(int wave, int thing, boolean laid) {
        if (!sound.hasWave(wave) || !isThing(thing)) {
            return false;
        }
        if (has(now.buoys[wave], thing) == laid) {
            return false;
        }
        past.remember(now);
        now.buoys[wave] ^= 1 << thing;
        return true;
    }

    public boolean fetch(int party) {
        if (!sound.hasParty(party) || now.status[party] == HERE) {
            return false;
        }
        past.remember(now);
        now.status[party] = HERE;
        return true;
    }

    public int years(int n) {
        if (n < 0 || n > MOST_YEARS) {
            return NONE;
        }
        if (n > 0) {
            past.remember(now);
            crossing.passYears(now, n);
        }
        return now.year;
    }

    public boolean undo() {
        return past.takeBack(now);
    }

    // ---- what would be ----

    public int cases() {
        return outlook.caseCount(now);
    }

    public int chance(int guess) {
        return sound.hasGuess(guess) ? outlook.oddsOf(now, guess) : NONE;
    }

    public int all() {
        return outlook.oddsOfAll(now, NONE);
    }

    public int likeliest() {
        return outlook.bestGuess(now, NONE);
    }

    public int bears(int party, int guess) {
        if (!sound.hasParty(party) || !sound.hasGuess(guess)) {
            return NONE;
        }
        return outlook.borneOver(now, party, guess);
    }

    public int safest(int party) {
        return sound.hasParty(party) ? outlook.bestGuess(now, party) : NONE;
    }

    public int enough() {
        return outlook.caseCount(now) == 0 ? NOTHING : outlook.goesAtMost(now);
    }

    public int left(int guess) {
        if (!sound.hasGuess(guess)) {
            return NONE;
        }
        return outlook.caseCount(now) == 0 ? NOTHING : outlook.leftBehind(now, guess);
    }

    public int wisest(int what) {
        if (what != 0 && what != 1) {
            return NONE;
        }
        if (outlook.caseCount(now) == 0) {
            return NOTHING;
        }
        int guess = outlook.wisestGuess(now);
        return what == 0 ? guess : outlook.leftBehind(now, guess);
    }

    public int rank(int guess) {
        if (!sound.hasGuess(guess)) {
            return NONE;
        }
        int own = outlook.oddsOf(now, guess);
        return own == 0 ? NOTHING : outlook.casesAheadOf(now, guess, own);
    }

    public int ranked(int i) {
        return i < 0 || i >= MOST_RANKED ? NONE : outlook.caseAtRank(now, i);
    }

    public int share(int wave, int thing) {
        if (!sound.hasWave(wave) || !isThing(thing)) {
            return NONE;
        }
        if (!has(crossing.mayBe(now, wave), thing)) {
            return 0;
        }
        return sound.oddsAt(wave, thing) * outlook.oddsOfAll(now, wave);
    }

    public int sure(int party, int n) {
        if (!isHere(party) || sound.waves == 0 || n < 1 || n > MOST_GOES) {
            return NONE;
        }
        trial.copyFrom(now);
        return outlook.oddsOverWithin(trial, party, n);
    }

    public int alike(int guess, int other) {
        if (!sound.hasGuess(guess) || !sound.hasGuess(other)) {
            return NONE;
        }
        int same = 0;
        while (same < sound.waves && thingIn(guess, same) == thingIn(other, same)) {
            same++;
        }
        return same;
    }

    public int sunk(int guess) {
        if (!sound.hasGuess(guess)) {
            return NONE;
        }
        int bits = 0;
        for (int party = 0; party < sound.parties; party++) {
            if (now.status[party] == HERE && outlook.borneOver(now, party, guess) < sound.waves) {
                bits |= 1 << party;
            }
        }
        return bits;
    }

    public int stuck() {
        int bits = 0;
        for (int party = 0; party < sound.parties; party++) {
            if (now.status[party] == HERE && outlook.bestGuess(now, party) == NOTHING) {
                bits |= 1 << party;
            }
        }
        return bits;
    }

    public int spread(int wave) {
        return sound.hasWave(wave) ? outlook.oddsApart(now, wave) : NONE;
    }

    public int dearest(int what) {
        if (what != 0 && what != 1) {
            return NONE;
        }
        int who = NOTHING;
        int most = NOTHING;
        for (int party = 0; party < sound.parties; party++) {
            int fare = crossing.fareOf(now, party);
            if (fare > most) {
                most = fare;
                who = party;
            }
        }
        return what == 0 ? who : most;
    }

    public int chosen() {
        int who = NOTHING;
        int most = 0;
        for (int party = 0; party < sound.parties; party++) {
            int guess = now.status[party] == HERE ? outlook.bestGuess(now, party) : NOTHING;
            int own = guess == NOTHING ? 0 : outlook.oddsOf(now, guess);
            if (own > most) {
                most = own;
                who = party;
            }
        }
        return who;
    }

    public int allGo(int what) {
        if (what < 0 || what > 2) {
            return NONE;
        }
        trial.copyFrom(now);
        for (int party = 0; party < sound.parties; party++) {
            if (trial.status[party] == HERE && crossing.isDaring(trial, party)) {
                int guess = outlook.bestGuess(trial, party);
                if (guess != NOTHING) {
                    crossing.sendBy(trial, party, guess);
                }
            }
        }
        if (what == 2) {
            return trial.paid - now.paid;
        }
        return Integer.bitCount(partiesThatAre(trial, what == 0 ? OVER : LOST));
    }

    public int darers() {
        int bits = 0;
        for (int party = 0; party < sound.parties; party++) {
            if (now.status[party] == HERE && crossing.isDaring(now, party)) {
                bits |= 1 << party;
            }
        }
        return bits;
    }

    public int open() {
        int bits = 0;
        for (int wave = 0; wave < sound.waves; wave++) {
            if (Integer.bitCount(crossing.mayBe(now, wave)) > 1) {
                bits |= 1 << wave;
            }
        }
        return bits;
    }

    public int then(int wave, int n, int what) {
        if (!sound.hasWave(wave) || n < 0 || n > MOST_YEARS) {
            return NONE;
        }
        trial.copyFrom(now);
        crossing.passYears(trial, n);
        switch (what) {
            case 0: return crossing.mayBe(trial, wave);
            case 1: return trial.shifted[wave];
            case 2: return crossing.thereNow(trial, wave);
            default: return NONE;
        }
    }

    public int next(int wave) {
        if (!sound.hasWave(wave)) {
            return NONE;
        }
        trial.copyFrom(now);
        for (int n = 1; n <= MOST_YEARS; n++) {
            crossing.passYears(trial, 1);
            if (trial.shifted[wave] != now.shifted[wave]) {
                return n;
            }
        }
        return NOTHING;
    }

    public int year(int guess, int s) {
        if (!sound.hasGuess(guess) || s < 1 || s > MOST_SEEDS) {
            return NONE;
        }
        int hits = 0;
        for (int i = 0; i < s; i++) {
            if (crossing.guessThere(now, sound.seed + i) == guess) {
                hits++;
            }
        }
        return hits;
    }

    public int drawn(int wave, int s) {
        if (!sound.hasWave(wave) || s < 1 || s > MOST_SEEDS) {
            return NONE;
        }
        int bits = 0;
        for (int i = 0; i < s; i++) {
            bits |= 1 << sound.thingThere(wave, now.shifted[wave], sound.seed + i);
        }
        return Integer.bitCount(bits);
    }

    // ---- what tellers say ----

    public int tell(int wave, int things, boolean so) {
        if (!sound.hasWave(wave) || things < 1 || things > ALL_THINGS) {
            return NONE;
        }
        return tellers.add(wave, so ? things : ALL_THINGS & ~things);
    }

    public int forget() {
        int were = tellers.told;
        tellers.told = 0;
        return were;
    }

    public int fit(int k, int l, int what) {
        if (!tellers.areSuch(k, l) || what < 0 || what > 1) {
            return NONE;
        }
        tellers.believe(now, k);
        return tellers.fitting(l, what == 1);
    }

    public int lie(int k, int l) {
        if (!tellers.areSuch(k, l)) {
            return NONE;
        }
        tellers.believe(now, k);
        return tellers.liars(k, l);
    }

    public int ask(int k, int l) {
        if (!tellers.areSuch(k, l)) {
            return NONE;
        }
        tellers.believe(now, k);
        return tellers.waveToAsk(l);
    }

    // ---- held and gone on from ----

    public boolean hold(int slot) {
        return past.keepIn(slot, now);
    }

    public boolean restore(int slot) {
        return past.goOnFrom(slot, now);
    }

    public int count(int what) {
        switch (what) {
            case 0: return sound.waves;
            case 1: return sound.parties;
            case 2: return now.year;
            case 3: return now.paid;
            case 4: return partiesThatAre(now, HERE);
            case 5: return partiesThatAre(now, LOST);
            case 6: return partiesThatAre(now, OVER);
            case 7: return sumOf(now.goes);
            case 8: return tape.length;
            case 9: return past.size;
            case 10: return tellers.told;
            case 11: return past.slotsHeld();
            case 12: return buoysLying();
            case 13: return wavesFound();
            case 14: return sound.guesses;
            case 15: return crossing.guessThere(now, sound.seed);
            case 16: return sumOf(now.shifted);
            case 17: return wavesWithNothing();
            case 18: return faresOfAllHere();
            default: return NONE;
        }
    }

    private boolean isHere(int party) {
        return sound.hasParty(party) && now.status[party] == HERE;
    }

    private int partiesThatAre(Standing standing, int status) {
        int bits = 0;
        for (int party = 0; party < sound.parties; party++) {
            if (standing.status[party] == status) {
                bits |= 1 << party;
            }
        }
        return bits;
    }

    private int buoysLying() {
        int lying = 0;
        for (int wave = 0; wave < sound.waves; wave++) {
            lying += Integer.bitCount(now.buoys[wave]);
        }
        return lying;
    }

    private int wavesFound() {
        int bits = 0;
        for (int wave = 0; wave < sound.waves; wave++) {
            if (now.found[wave] != NONE) {
                bits |= 1 << wave;
            }
        }
        return bits;
    }

    private int wavesWithNothing() {
        int bits = 0;
        for (int wave = 0; wave < sound.waves; wave++) {
            if (crossing.mayBe(now, wave) == 0) {
                bits |= 1 << wave;
            }
        }
        return bits;
    }

    private int faresOfAllHere() {
        int sum = 0;
        for (int party = 0; party < sound.parties; party++) {
            if (now.status[party] == HERE) {
                sum += crossing.fareOf(now, party);
            }
        }
        return sum;
    }

    private static boolean isThing(int thing) {
        return thing >= 0 && thing < THINGS;
    }

    private static boolean has(int bits, int bit) {
        return (bits >> bit & 1) == 1;
    }

    private static int sumOf(int[] row) {
        int sum = 0;
        for (int i = 0; i < row.length; i++) {
            sum += row[i];
        }
        return sum;
    }

    /** The THING that a GUESS has for a WAVE. */
    private static int thingIn(int guess, int wave) {
        int rest = guess;
        for (int i = 0; i < wave; i++) {
            rest /= THINGS;
        }
        return rest % THINGS;
    }

    private static int heldTo(int most, int value) {
        return Math.max(0, Math.min(most, value));
    }

    private static int lot(int n, int seed, int which) {
        if (n <= 0) {
            return 0;
        }
        int h = stirred(stirred(seed, 173), which);
        return (h >>> 1) % n;
    }

    private static int stirred(int h, int by) {
        int next = (h ^ by) * 1103515245 + 12345;
        return next ^ next >>> 15;
    }

    /** The bytes that a text is read from. */
    private static final class Tape {
        private static final int NO_BYTE = -1;

        private final byte[] bytes = new byte[TAPE_ROOM];
        private int length;

        private boolean hasRoomFor(int more) {
            return more <= bytes.length - length;
        }

        private void addFour(int four) {
            for (int down = 24; down >= 0; down -= 8) {
                if (length < bytes.length) {
                    bytes[length] = (byte) (four >>> down);
                    length++;
                }
            }
        }

        private int byteAt(int i) {
            return i >= 0 && i < length ? bytes[i] & 255 : NO_BYTE;
        }
    }

    /** The TOKENS of a tape, split before they are read. A SIGN's kind is its byte. */
    private static final class Tokens {
        private static final int FIRST_WORD = 256;
        private static final int WAVE = FIRST_WORD;
        private static final int PARTY = FIRST_WORD + 1;
        private static final int FIRST_LAW = FIRST_WORD + 2;
        private static final int SEED = FIRST_WORD + 6;
        private static final int IF = FIRST_WORD + 7;
        private static final int THEN = FIRST_WORD + 8;
        private static final int ELSE = FIRST_WORD + 9;
        private static final int FIRST_VAR = FIRST_WORD + 10;
        private static final int NAME = 300;
        private static final int INT = 301;
        private static final int END = 302;
        private static final int NO_TOKEN = 303;

        private static final int MOST_TOKENS = 400;
        private static final int MOST_LETTERS = 8;
        private static final int MOST_DIGITS = 4;
        private static final int WORD_COUNT = 19;
        private static final String SIGNS = ";=+-*/<()";
        // In the order of the kinds above; the LAWS and the VARS in that of their numbers.
        private static final String WORDS =
                "wave party needs fares dares shifts seed if then else at odds heavy nerve left year which buoys goes ";

        private final Tape tape;
        private final long[] words = new long[WORD_COUNT];
        // One more than may be, to see with which TOKEN there is no room.
        private final int[] kinds = new int[MOST_TOKENS + 1];
        private final int[] starts = new int[MOST_TOKENS + 1];
        private final long[] values = new long[MOST_TOKENS + 1];
        private int end;
        private long value;

        private Tokens(Tape tape) {
            this.tape = tape;
            int word = 0;
            long letters = 0;
            for (int i = 0; i < WORDS.length(); i++) {
                char sign = WORDS.charAt(i);
                if (isLetter(sign)) {
                    letters = withLetter(letters, sign);
                } else if (word < WORD_COUNT) {
                    words[word] = letters;
                    word++;
                    letters = 0;
                }
            }
        }

        private static boolean isBlank(int sign) {
            return sign == 9 || sign == 10 || sign == 13 || sign == 32;
        }

        private static boolean isLetter(int sign) {
            return sign >= 'a' && sign <= 'z';
        }

        private static boolean isDigit(int sign) {
            return sign >= '0' && sign <= '9';
        }

        /** Five bits a letter: the most letters of a NAME fit into one number. */
        private static long withLetter(long letters, int sign) {
            return letters << 5 | sign - 'a' + 1;
        }

        /** Nothing is split behind the text's end, what is no TOKEN, or one TOKEN too many. */
        private void split() {
            end = 0;
            int kind = NO_TOKEN;
            for (int i = 0; i <= MOST_TOKENS && (i == 0 || kind != END && kind != NO_TOKEN); i++) {
                skipBlanks();
                starts[i] = end;
                kind = splitOne();
                kinds[i] = kind;
                values[i] = value;
            }
        }

        private void skipBlanks() {
            while (end < tape.length && isBlank(tape.byteAt(end))) {
                end++;
            }
        }

        private int splitOne() {
            value = 0;
            int first = tape.byteAt(end);
            if (first == Tape.NO_BYTE) {
                return END;
            }
            if (isLetter(first)) {
                return splitLetters();
            }
            if (isDigit(first)) {
                return splitDigits();
            }
            end++;
            return SIGNS.indexOf((char) first) >= 0 ? first : NO_TOKEN;
        }

        private int splitLetters() {
            int start = end;
            while (end < tape.length && isLetter(tape.byteAt(end))) {
                value = withLetter(value, tape.byteAt(end));
                end++;
            }
            if (end - start > MOST_LETTERS) {
                return NO_TOKEN;
            }
            for (int i = 0; i < WORD_COUNT; i++) {
                if (words[i] == value) {
                    return FIRST_WORD + i;
                }
            }
            return NAME;
        }

        private int splitDigits() {
            int start = end;
            while (end < tape.length && isDigit(tape.byteAt(end))) {
                value = value * 10 + tape.byteAt(end) - '0';
                end++;
            }
            return end - start > MOST_DIGITS ? NO_TOKEN : INT;
        }
    }

    /** Reads the tape into a draft, which is of use only if there is no FAULT. */
    private static final class Reader {
        private static final int SYNTAX = 1;
        private static final int ROOM = 2;
        private static final int TWICE = 3;
        private static final int WRONG = 5;
        private static final int MOST_DEEP = 6;

        private final Tokens tokens;
        private final Sound draft = new Sound();
        private final long[] names = new long[MOST_PARTIES];
        private int at;
        private int fault;
        private int faultPlace = NONE;
        // TWICE and WRONG count only if the whole text has neither SYNTAX nor ROOM.
        private int laterFault;
        private int laterPlace;

        private Reader(Tape tape) {
            tokens = new Tokens(tape);
        }

        private int readTape() {
            draft.clear();
            at = 0;
            fault = 0;
            faultPlace = NONE;
            laterFault = 0;
            laterPlace = NONE;
            tokens.split();
            for (int i = 0; i <= Tokens.MOST_TOKENS && fault == 0 && !isAt(Tokens.END); i++) {
                readTell();
            }
            if (fault == 0) {
                fault = laterFault;
                faultPlace = laterPlace;
            }
            if (fault == 0) {
                draft.addUp();
            }
            return fault;
        }

        /** Behind a FAULT nothing is there, so that all that reads comes to its end. */
        private boolean isAt(int kind) {
            return fault == 0 && tokens.kinds[at] == kind;
        }

        private void fail(int number) {
            if (fault == 0) {
                fault = number;
                faultPlace = tokens.starts[at];
            }
        }

        private void failLater(int number, int place) {
            if (laterFault == 0) {
                laterFault = number;
                laterPlace = place;
            }
        }

        private void take(int kind) {
            if (!isAt(kind)) {
                fail(SYNTAX);
            } else if (at >= Tokens.MOST_TOKENS) {
                fail(ROOM);
            } else {
                at++;
            }
        }

        private int takeInt(int most) {
            int number = (int) tokens.values[at];
            if (isAt(Tokens.INT) && number > most) {
                failLater(WRONG, tokens.starts[at]);
            }
            take(Tokens.INT);
            return number;
        }

        private void readTell() {
            int kind = tokens.kinds[at];
            int law = kind - Tokens.FIRST_LAW;
            if (kind == Tokens.WAVE) {
                readWave();
            } else if (kind == Tokens.PARTY) {
                readParty();
            } else if (kind == Tokens.SEED) {
                take(Tokens.SEED);
                draft.seed = takeInt(MOST_SEED);
                take(';');
            } else if (law >= 0 && law < LAWS) {
                take(kind);
                readLaw(law);
            } else {
                fail(SYNTAX);
            }
        }

        private void readWave() {
            if (draft.waves >= MOST_WAVES) {
                fail(ROOM);
                return;
            }
            take(Tokens.WAVE);
            int sum = 0;
            int last = NONE;
            for (int thing = 0; thing < THINGS; thing++) {
                last = tokens.starts[at];
                int odds = takeInt(MOST_ODDS);
                draft.odds[draft.waves * THINGS + thing] = odds;
                sum += odds;
            }
            if (sum == 0) {
                failLater(WRONG, last);
            }
            take(';');
            draft.waves++;
        }

        private void readParty() {
            if (draft.parties >= MOST_PARTIES) {
                fail(ROOM);
                return;
            }
            take(Tokens.PARTY);
            long name = tokens.values[at];
            if (isAt(Tokens.NAME) && isTold(name)) {
                failLater(TWICE, tokens.starts[at]);
            }
            take(Tokens.NAME);
            names[draft.parties] = name;
            draft.heavy[draft.parties] = takeInt(MOST_HEAVY);
            draft.nerve[draft.parties] = takeInt(MOST_NERVE);
            take(';');
            draft.parties++;
        }

        private boolean isTold(long name) {
            for (int party = 0; party < draft.parties; party++) {
                if (names[party] == name) {
                    return true;
                }
            }
            return false;
        }

        private void readLaw(int law) {
            take('=');
            draft.laws.begin(law);
            for (int ifs = 0; ifs <= Laws.MOST_IFS && isAt(Tokens.IF); ifs++) {
                if (ifs == Laws.MOST_IFS) {
                    fail(ROOM);
                }
                take(Tokens.IF);
                readPart('<');
                readPart(Tokens.THEN);
                readPart(Tokens.ELSE);
            }
            readPart(';');
        }

        private void readPart(int endKind) {
            readSum(0);
            draft.laws.endPart();
            take(endKind);
        }

        private void readSum(int depth) {
            readProduct(depth);
            for (int i = 0; i < Tokens.MOST_TOKENS && (isAt('+') || isAt('-')); i++) {
                int sign = tokens.kinds[at];
                take(sign);
                readProduct(depth);
                draft.laws.putSign(sign);
            }
        }

        private void readProduct(int depth) {
            readUnit(depth);
            for (int i = 0; i < Tokens.MOST_TOKENS && (isAt('*') || isAt('/')); i++) {
                int sign = tokens.kinds[at];
                take(sign);
                readUnit(depth);
                draft.laws.putSign(sign);
            }
        }

        private void readUnit(int depth) {
            int kind = tokens.kinds[at];
            int variable = kind - Tokens.FIRST_VAR;
            if (isAt(Tokens.INT)) {
                draft.laws.putNumber((int) tokens.values[at]);
                take(Tokens.INT);
            } else if (variable >= 0 && variable < VARS) {
                draft.laws.putVar(variable);
                take(kind);
            } else if (isAt('(') && depth >= MOST_DEEP) {
                fail(ROOM);
            } else if (isAt('(')) {
                take('(');
                readSum(depth + 1);
                take(')');
            } else {
                fail(SYNTAX);
            }
        }
    }

    /**
     * The four LAWS. A LAW is a row of parts, three for each if and one more; a part is a row of
     * steps: a number as it is, a VAR as -1 less its number, a SIGN as its byte below 0, each SIGN
     * behind what it joins.
     */
    private static final class Laws {
        private static final int MOST_IFS = 4;
        private static final int MOST_PARTS = 3 * MOST_IFS + 1;
        // A part's steps have one TOKEN each, and the four LAWS that hold if none is told one step.
        private static final int STEP_ROOM = Tokens.MOST_TOKENS + LAWS;
        // Two that wait at each depth, and the one that comes.
        private static final int STACK_ROOM = 2 * Reader.MOST_DEEP + 4;

        private final int[] steps = new int[STEP_ROOM];
        private final int[] partEnds = new int[LAWS * MOST_PARTS];
        private final int[] lawStarts = new int[LAWS];
        private final int[] partCounts = new int[LAWS];
        private final int[] vars = new int[VARS];
        private final int[] stack = new int[STACK_ROOM];
        private int length;
        private int current;
        private boolean isByZero;

        private void clear() {
            length = 0;
            begin(NEEDS);
            putVar(VAR_HEAVY);
            endPart();
            begin(FARES);
            putNumber(1);
            endPart();
            begin(DARES);
            putNumber(1);
            endPart();
            begin(SHIFTS);
            putNumber(0);
            endPart();
        }

        private void copyFrom(Laws other) {
            System.arraycopy(other.steps, 0, steps, 0, STEP_ROOM);
            System.arraycopy(other.partEnds, 0, partEnds, 0, LAWS * MOST_PARTS);
            System.arraycopy(other.lawStarts, 0, lawStarts, 0, LAWS);
            System.arraycopy(other.partCounts, 0, partCounts, 0, LAWS);
            length = other.length;
        }

        private void begin(int law) {
            current = law;
            lawStarts[law] = length;
            partCounts[law] = 0;
        }

        private void endPart() {
            int part = partCounts[current];
            if (part < MOST_PARTS) {
                partEnds[current * MOST_PARTS + part] = length;
                partCounts[current] = part + 1;
            }
        }

        private void putNumber(int number) {
            put(number);
        }

        private void putVar(int variable) {
            put(-1 - variable);
        }

        private void putSign(int sign) {
            put(-sign);
        }

        private void put(int step) {
            if (length < STEP_ROOM) {
                steps[length] = step;
                length++;
            }
        }

        private int valueOf(int law) {
            isByZero = false;
            int last = partCounts[law] - 1;
            int chosen = last;
            for (int part = 0; part + 2 < last; part += 3) {
                int one = partValue(law, part);
                int other = partValue(law, part + 1);
                if (isByZero) {
                    return 0;
                }
                if (one < other) {
                    chosen = part + 2;
                    break;
                }
            }
            int value = partValue(law, chosen);
            return isByZero ? 0 : value;
        }

        private int partValue(int law, int part) {
            if (part < 0 || part >= MOST_PARTS) {
                return 0;
            }
            int at = law * MOST_PARTS + part;
            int end = partEnds[at];
            int top = 0;
            for (int i = part == 0 ? lawStarts[law] : partEnds[at - 1]; i < end; i++) {
                int step = steps[i];
                if (step >= -VARS && top < STACK_ROOM) {
                    stack[top] = step >= 0 ? step : vars[-1 - step];
                    top++;
                } else if (top >= 2) {
                    top--;
                    stack[top - 1] = joined(-step, stack[top - 1], stack[top]);
                }
            }
            return stack[0];
        }

        private int joined(int sign, int one, int other) {
            switch (sign) {
                case '+': return one + other;
                case '-': return one - other;
                case '*': return one * other;
                default:
                    if (other == 0) {
                        isByZero = true;
                        return 0;
                    }
                    return one / other;
            }
        }
    }

    /** What a text tells. */
    private static final class Sound {
        private final int[] odds = new int[MOST_WAVES * THINGS];
        private final int[] oddsSums = new int[MOST_WAVES];
        private final int[] likely = new int[MOST_WAVES];
        private final int[] heavy = new int[MOST_PARTIES];
        private final int[] nerve = new int[MOST_PARTIES];
        private final Laws laws = new Laws();
        private int waves;
        private int parties;
        private int guesses;
        private int seed;

        private Sound() {
            clear();
        }

        private void clear() {
            waves = 0;
            parties = 0;
            guesses = 1;
            seed = 0;
            laws.clear();
        }

        private void addUp() {
            guesses = 1;
            for (int wave = 0; wave < waves; wave++) {
                oddsSums[wave] = 0;
                likely[wave] = 0;
                for (int thing = 0; thing < THINGS; thing++) {
                    oddsSums[wave] += oddsAt(wave, thing);
                    likely[wave] |= oddsAt(wave, thing) > 0 ? 1 << thing : 0;
                }
                guesses *= THINGS;
            }
        }

        private void copyFrom(Sound other) {
            System.arraycopy(other.odds, 0, odds, 0, MOST_WAVES * THINGS);
            System.arraycopy(other.oddsSums, 0, oddsSums, 0, MOST_WAVES);
            System.arraycopy(other.likely, 0, likely, 0, MOST_WAVES);
            System.arraycopy(other.heavy, 0, heavy, 0, MOST_PARTIES);
            System.arraycopy(other.nerve, 0, nerve, 0, MOST_PARTIES);
            laws.copyFrom(other.laws);
            waves = other.waves;
            parties = other.parties;
            guesses = other.guesses;
            seed = other.seed;
        }

        private boolean hasWave(int wave) {
            return wave >= 0 && wave < waves;
        }

        private boolean hasParty(int party) {
            return party >= 0 && party < parties;
        }

        private boolean hasGuess(int guess) {
            return guess >= 0 && guess < guesses;
        }

        private int oddsAt(int wave, int thing) {
            return odds[wave * THINGS + thing];
        }

        private int thingThere(int wave, int shifted, int bySeed) {
            int drawn = lot(oddsSums[wave], bySeed, 8 * shifted + wave);
            int added = 0;
            for (int thing = 0; thing < THINGS; thing++) {
                added += oddsAt(wave, thing);
                if (added > drawn) {
                    return thing;
                }
            }
            return THINGS - 1;
        }
    }

    /** All that goes on, so that it can be held, undone and tried out. */
    private static final class Standing {
        private final int[] found = new int[MOST_WAVES];
        private final int[] buoys = new int[MOST_WAVES];
        private final int[] shifted = new int[MOST_WAVES];
        private final int[] status = new int[MOST_PARTIES];
        private final int[] goes = new int[MOST_PARTIES];
        private int year;
        private int paid;

        private void startOver() {
            Arrays.fill(found, NONE);
            Arrays.fill(buoys, 0);
            Arrays.fill(shifted, 0);
            Arrays.fill(status, HERE);
            Arrays.fill(goes, 0);
            year = 0;
            paid = 0;
        }

        private void copyFrom(Standing other) {
            System.arraycopy(other.found, 0, found, 0, MOST_WAVES);
            System.arraycopy(other.buoys, 0, buoys, 0, MOST_WAVES);
            System.arraycopy(other.shifted, 0, shifted, 0, MOST_WAVES);
            System.arraycopy(other.status, 0, status, 0, MOST_PARTIES);
            System.arraycopy(other.goes, 0, goes, 0, MOST_PARTIES);
            year = other.year;
            paid = other.paid;
        }
    }

    /** What can be undone, and the SLOTS. */
    private static final class Past {
        // A ring: the first of those that can be undone goes when one more than its room comes.
        private final Standing[] ring = new Standing[MOST_UNDONE];
        private final Standing[] slots = new Standing[SLOTS];
        private final boolean[] isHeld = new boolean[SLOTS];
        private int first;
        private int size;

        private Past() {
            for (int i = 0; i < MOST_UNDONE; i++) {
                ring[i] = new Standing();
            }
            for (int i = 0; i < SLOTS; i++) {
                slots[i] = new Standing();
            }
        }

        private void forgetAll() {
            size = 0;
            for (int slot = 0; slot < SLOTS; slot++) {
                isHeld[slot] = false;
            }
        }

        private void remember(Standing now) {
            ring[(first + size) % MOST_UNDONE].copyFrom(now);
            if (size < MOST_UNDONE) {
                size++;
            } else {
                first = (first + 1) % MOST_UNDONE;
            }
        }

        private boolean takeBack(Standing now) {
            if (size == 0) {
                return false;
            }
            size--;
            now.copyFrom(ring[(first + size) % MOST_UNDONE]);
            return true;
        }

        private boolean keepIn(int slot, Standing now) {
            if (slot < 0 || slot >= SLOTS) {
                return false;
            }
            slots[slot].copyFrom(now);
            isHeld[slot] = true;
            return true;
        }

        private boolean goOnFrom(int slot, Standing now) {
            if (slot < 0 || slot >= SLOTS || !isHeld[slot]) {
                return false;
            }
            now.copyFrom(slots[slot]);
            size = 0;
            return true;
        }

        private int slotsHeld() {
            int held = 0;
            for (int slot = 0; slot < SLOTS; slot++) {
                held += isHeld[slot] ? 1 : 0;
            }
            return held;
        }
    }

    /** How it is and what comes of it, by the LAWS, in a standing that may be a trial. */
    private static final class Crossing {
        // Far above what WAVES shift, so that no YEAR has the LOT of a THING.
        private static final int YEAR_LOTS = 1000000;

        private final Sound sound;
        private final int[] vars;

        private Crossing(Sound sound) {
            this.sound = sound;
            vars = sound.laws.vars;
        }

        private int mayBe(Standing standing, int wave) {
            if (standing.found[wave] != NONE) {
                return 1 << standing.found[wave];
            }
            return sound.likely[wave] & ~standing.buoys[wave];
        }

        private int thereNow(Standing standing, int wave) {
            return sound.thingThere(wave, standing.shifted[wave], sound.seed);
        }

        private int guessThere(Standing standing, int bySeed) {
            int guess = 0;
            for (int wave = sound.waves - 1; wave >= 0; wave--) {
                guess = guess * THINGS + sound.thingThere(wave, standing.shifted[wave], bySeed);
            }
            return guess;
        }

        private void clearVars(Standing standing) {
            Arrays.fill(vars, 0);
            vars[VAR_YEAR] = standing.year;
        }

        private void setParty(Standing standing, int party) {
            vars[VAR_HEAVY] = sound.heavy[party];
            vars[VAR_NERVE] = sound.nerve[party];
            vars[VAR_WHICH] = party;
            vars[VAR_GOES] = standing.goes[party];
        }

        private void setWave(Standing standing, int wave) {
            vars[VAR_AT] = wave;
            vars[VAR_LEFT] = Integer.bitCount(mayBe(standing, wave));
            vars[VAR_BUOYS] = Integer.bitCount(standing.buoys[wave]);
        }

        private int needOf(Standing standing, int party, int wave, int thing) {
            clearVars(standing);
            setParty(standing, party);
            setWave(standing, wave);
            vars[VAR_ODDS] = sound.oddsAt(wave, thing);
            return heldTo(MOST_NEEDS, sound.laws.valueOf(NEEDS));
        }

        private boolean isBearing(Standing standing, int party, int wave, int thing) {
            return sound.oddsAt(wave, thing) >= needOf(standing, party, wave, thing);
        }

        private int fareOf(Standing standing, int party) {
            clearVars(standing);
            setParty(standing, party);
            return heldTo(MOST_FARES, sound.laws.valueOf(FARES));
        }

        private boolean isDaring(Standing standing, int party) {
            clearVars(standing);
            setParty(standing, party);
            return sound.laws.valueOf(DARES) > 0;
        }

        private int shiftsOf(Standing standing, int wave) {
            clearVars(standing);
            setWave(standing, wave);
            return heldTo(MOST_SHIFTS, sound.laws.valueOf(SHIFTS));
        }

        /** Over how many WAVES the PARTY comes. */
        private int sendBy(Standing standing, int party, int guess) {
            standing.paid += fareOf(standing, party);
            int status = OVER;
            int came = 0;
            for (int wave = 0; wave < sound.waves && status == OVER; wave++) {
                int thing = thingIn(guess, wave);
                // What is found out at the WAVES ahead is no part of this one's NEEDS.
                if (!isBearing(standing, party, wave, thing)) {
                    status = LOST;
                } else if (thing != thereNow(standing, wave)) {
                    standing.buoys[wave] |= 1 << thing;
                    status = HERE;
                } else {
                    standing.found[wave] = thing;
                    came++;
                }
            }
            standing.status[party] = status;
            standing.goes[party]++;
            return came;
        }

        private void passYears(Standing standing, int n) {
            for (int i = 0; i < n; i++) {
                for (int wave = 0; wave < sound.waves; wave++) {
                    passYearOver(standing, wave);
                }
                standing.year++;
            }
        }

        private void passYearOver(Standing standing, int wave) {
            int drawn = lot(MOST_SHIFTS, sound.seed, 8 * standing.year + YEAR_LOTS + wave);
            if (drawn < shiftsOf(standing, wave)) {
                standing.shifted[wave]++;
                standing.found[wave] = NONE;
                standing.buoys[wave] = 0;
            }
        }
    }

    /** What would be: CASES and GUESSES. */
    private static final class Outlook {
        // The WAVES of the near row, so that two short rows stand for all GUESSES.
        private static final int NEAR_WAVES = 3;

        private final Sound sound;
        private final Crossing crossing;
        private final int[] near = new int[THINGS * THINGS * THINGS];
        private final int[] far = new int[THINGS * THINGS];
        private final int[] topGuesses = new int[MOST_RANKED];
        private final int[] topOdds = new int[MOST_RANKED];

        private Outlook(Sound sound, Crossing crossing) {
            this.sound = sound;
            this.crossing = crossing;
        }

        private int mayCount(Standing standing, int wave) {
            return Integer.bitCount(crossing.mayBe(standing, wave));
        }

        private int caseCount(Standing standing) {
            int cases = 1;
            for (int wave = 0; wave < sound.waves; wave++) {
                cases *= mayCount(standing, wave);
            }
            return cases;
        }

        /** The ODDS of all rows of THINGS that MAY be there over all WAVES but one, added. */
        private int oddsOfAll(Standing standing, int butWave) {
            int product = 1;
            for (int wave = 0; wave < sound.waves; wave++) {
                if (wave != butWave) {
                    int sum = 0;
                    for (int thing = 0; thing < THINGS; thing++) {
                        sum += oddsIfMay(standing, wave, thing);
                    }
                    product *= sum;
                }
            }
            return product;
        }

        private int oddsIfMay(Standing standing, int wave, int thing) {
            return has(crossing.mayBe(standing, wave), thing) ? sound.oddsAt(wave, thing) : 0;
        }

        private int oddsOf(Standing standing, int guess) {
            int product = 1;
            for (int wave = 0; wave < sound.waves; wave++) {
                product *= oddsIfMay(standing, wave, thingIn(guess, wave));
            }
            return product;
        }

        /**
         * The CASE of greatest ODDS, of alike ones of the least number, that bears the PARTY (NONE:
         * any). ODDS of what MAY be are above 0, so each WAVE's best THING makes the best CASE.
         */
        private int bestGuess(Standing standing, int party) {
            int guess = 0;
            for (int wave = sound.waves - 1; wave >= 0; wave--) {
                int thing = bestThing(standing, party, wave);
                if (thing == NONE) {
                    return NOTHING;
                }
                guess = guess * THINGS + thing;
            }
            return guess;
        }

        private int bestThing(Standing standing, int party, int wave) {
            int best = NONE;
            int most = 0;
            for (int thing = 0; thing < THINGS; thing++) {
                int odds = oddsIfMay(standing, wave, thing);
                // LAWS are dear, so only a THING that would be better is asked about.
                if (odds > most && (party == NONE || odds >= crossing.needOf(standing, party, wave, thing))) {
                    best = thing;
                    most = odds;
                }
            }
            return best;
        }

        private int borneOver(Standing standing, int party, int guess) {
            int over = 0;
            while (over < sound.waves && crossing.isBearing(standing, party, over, thingIn(guess, over))) {
                over++;
            }
            return over;
        }

        /** Each GO but the last one takes away one THING that MAY be, whichever WAVE it is at. */
        private int goesAtMost(Standing standing) {
            int goes = 1;
            for (int wave = 0; wave < sound.waves; wave++) {
                goes += mayCount(standing, wave) - 1;
            }
            return goes;
        }

        /** From the last WAVE back: what is left at most if those ahead of a WAVE are found out. */
        private int leftBehind(Standing standing, int guess) {
            int most = 1;
            int casesBehind = 1;
            for (int wave = sound.waves - 1; wave >= 0; wave--) {
                int may = mayCount(standing, wave);
                if (has(crossing.mayBe(standing, wave), thingIn(guess, wave))) {
                    most = Math.max(most, (may - 1) * casesBehind);
                } else {
                    most = may * casesBehind;
                }
                casesBehind *= may;
            }
            return most;
        }

        /**
         * Being let down at the first WAVE that is OPEN leaves more than whatever comes behind it,
         * so a GUESS is as good as any if it may be right up to there: behind it, 0 is least.
         */
        private int wisestGuess(Standing standing) {
            int guess = 0;
            int worth = 1;
            for (int wave = 0; wave < sound.waves; wave++) {
                guess += worth * Integer.numberOfTrailingZeros(crossing.mayBe(standing, wave));
                if (mayCount(standing, wave) > 1) {
                    return guess;
                }
                worth *= THINGS;
            }
            return 0;
        }

        private int oddsApart(Standing standing, int wave) {
            int least = MOST_ODDS;
            int most = 0;
            for (int thing = 0; thing < THINGS; thing++) {
                int odds = oddsIfMay(standing, wave, thing);
                if (odds > 0) {
                    least = Math.min(least, odds);
                    most = Math.max(most, odds);
                }
            }
            return Math.max(0, most - least);
        }

        /** Puts the ODDS of all GUESSES over some WAVES into a row, by number: how many. */
        private int fillRow(Standing standing, int[] row, int from, int to) {
            int size = 1;
            row[0] = 1;
            for (int wave = from; wave < to; wave++) {
                // From the last THING down, so that the row's beginning is changed last.
                for (int thing = THINGS - 1; thing >= 0; thing--) {
                    int odds = oddsIfMay(standing, wave, thing);
                    for (int i = 0; i < size; i++) {
                        row[thing * size + i] = row[i] * odds;
                    }
                }
                size *= THINGS;
            }
            return size;
        }

        private int fillNear(Standing standing) {
            return fillRow(standing, near, 0, Math.min(NEAR_WAVES, sound.waves));
        }

        private int fillFar(Standing standing) {
            return fillRow(standing, far, NEAR_WAVES, sound.waves);
        }

        private int casesAheadOf(Standing standing, int guess, int own) {
            int nearSize = fillNear(standing);
            int farSize = fillFar(standing);
            int ahead = 0;
            int number = 0;
            for (int i = 0; i < farSize; i++) {
                for (int j = 0; j < nearSize; j++) {
                    int odds = far[i] * near[j];
                    if (odds > own || odds == own && number < guess) {
                        ahead++;
                    }
                    number++;
                }
            }
            return ahead;
        }

        private int caseAtRank(Standing standing, int rank) {
            int nearSize = fillNear(standing);
            int farSize = fillFar(standing);
            Arrays.fill(topOdds, 0);
            Arrays.fill(topGuesses, NONE);
            int number = 0;
            for (int i = 0; i < farSize; i++) {
                for (int j = 0; j < nearSize; j++) {
                    int odds = far[i] * near[j];
                    if (odds > topOdds[rank]) {
                        putOnTop(number, odds, rank);
                    }
                    number++;
                }
            }
            return topGuesses[rank];
        }

        /** CASES come by number, so one of as great ODDS as others goes behind them. */
        private void putOnTop(int guess, int odds, int last) {
            int at = last;
            while (at > 0 && topOdds[at - 1] < odds) {
                topOdds[at] = topOdds[at - 1];
                topGuesses[at] = topGuesses[at - 1];
                at--;
            }
            topOdds[at] = odds;
            topGuesses[at] = guess;
        }

        /**
         * The ODDS of all CASES by which the PARTY is OVER within so many GOES. Each GO is by one
         * CASE: that one is OVER now, and all others let it down at some WAVE. The trial is left as
         * it was.
         */
        private int oddsOverWithin(Standing trial, int party, int goes) {
            int guess = bestGuess(trial, party);
            if (guess == NOTHING || goes < 1) {
                return 0;
            }
            int sum = oddsOf(trial, guess);
            if (goes == 1) {
                return sum;
            }
            trial.goes[party]++;
            int foundHere = 0;
            for (int wave = 0; wave < sound.waves; wave++) {
                int thing = thingIn(guess, wave);
                if (mayCount(trial, wave) > 1) {
                    trial.buoys[wave] ^= 1 << thing;
                    sum += oddsOverWithin(trial, party, goes - 1);
                    trial.buoys[wave] ^= 1 << thing;
                }
                if (trial.found[wave] == NONE) {
                    trial.found[wave] = thing;
                    foundHere |= 1 << wave;
                }
            }
            unfind(trial, foundHere);
            trial.goes[party]--;
            return sum;
        }

        private void unfind(Standing trial, int bits) {
            for (int wave = 0; wave < sound.waves; wave++) {
                if (has(bits, wave)) {
                    trial.found[wave] = NONE;
                }
            }
        }
    }

    /** What is TOLD, and which CASES FIT it. */
    private static final class Tellers {
        private final Sound sound;
        private final Crossing crossing;
        private final int[] toldWaves = new int[MOST_TOLD];
        private final int[] toldThings = new int[MOST_TOLD];
        // Of each WAVE and THING: its ODDS if it MAY be there, else 0; how many KNOWN it belies.
        private final int[] odds = new int[MOST_WAVES * THINGS];
        private final int[] belied = new int[MOST_WAVES * THINGS];
        private final int[] byLies = new int[MOST_LIES + 1];
        private int told;

        private Tellers(Sound sound, Crossing crossing) {
            this.sound = sound;
            this.crossing = crossing;
        }

        private int add(int wave, int things) {
            if (told >= MOST_TOLD) {
                return NONE;
            }
            toldWaves[told] = wave;
            toldThings[told] = things;
            told++;
            return told - 1;
        }

        private boolean areSuch(int k, int l) {
            return k >= 0 && k <= told && l >= 0 && l <= MOST_LIES;
        }

        private void believe(Standing standing, int k) {
            for (int wave = 0; wave < sound.waves; wave++) {
                int may = crossing.mayBe(standing, wave);
                for (int thing = 0; thing < THINGS; thing++) {
                    int at = wave * THINGS + thing;
                    odds[at] = has(may, thing) ? sound.oddsAt(wave, thing) : 0;
                    belied[at] = beliedBy(wave, thing, k);
                }
            }
        }

        private int beliedBy(int wave, int thing, int k) {
            int lies = 0;
            for (int i = 0; i < k; i++) {
                if (toldWaves[i] == wave && !has(toldThings[i], thing)) {
                    lies++;
                }
            }
            return lies;
        }

        /** Counts the rows of THINGS over all WAVES but one, or adds their ODDS, by their lies. */
        private void sortByLies(int butWave, boolean isByOdds) {
            Arrays.fill(byLies, 0);
            byLies[0] = 1;
            for (int wave = 0; wave < sound.waves; wave++) {
                if (wave != butWave) {
                    // From the most lies down: each is made of those of fewer, as they were.
                    for (int lies = MOST_LIES; lies >= 0; lies--) {
                        byLies[lies] = withWave(wave, lies, isByOdds);
                    }
                }
            }
        }

        private int withWave(int wave, int lies, boolean isByOdds) {
            int sum = 0;
            for (int thing = 0; thing < THINGS; thing++) {
                int at = wave * THINGS + thing;
                if (odds[at] > 0 && belied[at] <= lies) {
                    sum += byLies[lies - belied[at]] * (isByOdds ? odds[at] : 1);
                }
            }
            return sum;
        }

        private int upTo(int lies) {
            int sum = 0;
            for (int i = 0; i <= lies && i <= MOST_LIES; i++) {
                sum += byLies[i];
            }
            return sum;
        }

        private int fitting(int l, boolean isByOdds) {
            sortByLies(NONE, isByOdds);
            return upTo(l);
        }

        /** How many FIT with the THING over the WAVE, for which all others were sorted. */
        private int fittingWith(int wave, int thing, int l) {
            int at = wave * THINGS + thing;
            return odds[at] > 0 ? upTo(l - belied[at]) : 0;
        }

        private int liars(int k, int l) {
            int bits = 0;
            for (int wave = 0; wave < sound.waves; wave++) {
                sortByLies(wave, false);
                int things = 0;
                for (int thing = 0; thing < THINGS; thing++) {
                    things |= fittingWith(wave, thing, l) > 0 ? 1 << thing : 0;
                }
                for (int i = 0; i < k; i++) {
                    bits |= toldWaves[i] == wave && (toldThings[i] & things) == 0 ? 1 << i : 0;
                }
            }
            return bits;
        }

        private int waveToAsk(int l) {
            int best = NOTHING;
            int fewest = 0;
            for (int wave = 0; wave < sound.waves; wave++) {
                sortByLies(wave, false);
                int worst = 0;
                for (int thing = 0; thing < THINGS; thing++) {
                    worst = Math.max(worst, fittingWith(wave, thing, l));
                }
                if (worst > 0 && (best == NOTHING || worst < fewest)) {
                    best = wave;
                    fewest = worst;
                }
            }
            return best;
        }
    }
}
