import java.util.ArrayDeque;
import java.util.ArrayList;
import java.util.Arrays;
import java.util.HashMap;
import java.util.HashSet;
import java.util.List;
import java.util.Map;
import java.util.Set;
import java.util.function.ToIntFunction;

/**
 * The document once more, word by word and slowly: it counts all CASES one by one and tries out all
 * that can come. ModelTest compares GuessFerry with it; no code or way of working is shared.
 */
final class SlowFerry {
    private static final class ByZero extends RuntimeException {
        private static final long serialVersionUID = 1;
    }

    private interface Formula {
        int tell(Map<String, Integer> vars);
    }

    private record Token(String kind, String text, int place) { }

    private record Law(List<Formula[]> ifs, Formula last) { }

    private record Told(int wave, int things, boolean so) { }

    static final class State {
        Integer[] found = new Integer[0];
        boolean[][] buoys = new boolean[0][];
        int[] shifted = new int[0];
        int[] status = new int[0];
        int[] goes = new int[0];
        int year;
        int paid;

        State copy() {
            State s = new State();
            s.found = found.clone();
            s.buoys = new boolean[buoys.length][];
            for (int i = 0; i < buoys.length; i++) {
                s.buoys[i] = buoys[i].clone();
            }
            s.shifted = shifted.clone();
            s.status = status.clone();
            s.goes = goes.clone();
            s.year = year;
            s.paid = paid;
            return s;
        }
    }

    private static final Set<String> WORDS = new HashSet<>(Arrays.asList("wave", "party", "needs", "fares",
            "dares", "shifts", "seed", "if", "then", "else", "at", "odds", "heavy", "nerve", "left", "year",
            "which", "buoys", "goes"));
    private static final Set<String> VARS = new HashSet<>(Arrays.asList("at", "odds", "heavy", "nerve", "left",
            "year", "which", "buoys", "goes"));

    private StringBuilder tape = new StringBuilder();
    private int faultPlace = -1;
    private List<int[]> waves = new ArrayList<>();
    private List<int[]> parties = new ArrayList<>();
    private Map<String, Law> laws = new HashMap<>();
    private int seed;
    private State now = new State();
    private ArrayDeque<State> past = new ArrayDeque<>();
    private State[] slots = new State[3];
    private List<Told> told = new ArrayList<>();

    // ---- the text ----

    int feed(int a, int b, int c, int d, int e) {
        if (tape.length() + 20 > 2000) {
            return -1;
        }
        for (int x : new int[] {a, b, c, d, e}) {
            tape.append((char) (x >> 24 & 255)).append((char) (x >> 16 & 255));
            tape.append((char) (x >> 8 & 255)).append((char) (x & 255));
        }
        return tape.length();
    }

    int back(int n) {
        if (n < 0 || n > tape.length()) {
            return -1;
        }
        tape.setLength(tape.length() - n);
        return tape.length();
    }

    int place() {
        return faultPlace;
    }

    int read() {
        String text = tape.toString();
        tape.setLength(0);
        List<Token> tokens = split(text);
        int[] fault = earlyFault(tokens);
        if (fault == null) {
            fault = lateFault(tokens);
        }
        if (fault != null) {
            faultPlace = fault[1];
            return fault[0];
        }
        faultPlace = -1;
        install(tokens);
        return 0;
    }

    private static List<Token> split(String text) {
        List<Token> tokens = new ArrayList<>();
        int i = 0;
        while (true) {
            while (i < text.length() && "\t\n\r ".indexOf(text.charAt(i)) >= 0) {
                i++;
            }
            if (i == text.length()) {
                tokens.add(new Token("end", "", i));
                return tokens;
            }
            String rest = text.substring(i);
            String run = rest.replaceFirst("(?s)^([a-z]+|[0-9]+|.).*$", "$1");
            String kind;
            if (run.matches("[a-z]+")) {
                kind = run.length() > 8 ? "bad" : WORDS.contains(run) ? run : "NAME";
            } else if (run.matches("[0-9]+")) {
                kind = run.length() > 4 ? "bad" : "INT";
            } else {
                kind = ";=+-*/<()".contains(run) ? run : "bad";
            }
            tokens.add(new Token(kind, run, i));
            if (kind.equals("bad")) {
                return tokens;
            }
            i += run.length();
        }
    }

    /** A stack of what must come; what is in capitals but NAME and INT is opened by a table. */
    private static int syntaxFault(List<Token> tokens) {
        ArrayDeque<String> due = new ArrayDeque<>();
        due.push("TEXT");
        int i = 0;
        while (!due.isEmpty()) {
            String top = due.pop();
            String kind = tokens.get(i).kind();
            String[] opened = open(top, kind);
            if (opened != null) {
                for (int j = opened.length - 1; j >= 0; j--) {
                    due.push(opened[j]);
                }
            } else if (top.equals(kind)) {
                i++;
            } else {
                return i;
            }
        }
        return -1;
    }

    private static String[] open(String top, String kind) {
        boolean unit = kind.equals("INT") || kind.equals("(") || VARS.contains(kind);
        switch (top) {
            case "TEXT": return row(kind.equals("end") ? "end" : "TELL TEXT");
            case "TELL":
                switch (kind) {
                    case "wave": return row("wave INT INT INT INT INT INT ;");
                    case "party": return row("party NAME INT INT ;");
                    case "seed": return row("seed INT ;");
                    case "needs": case "fares": case "dares": case "shifts": return row(kind + " = LAW ;");
                    default: return row("nothing");
                }
            case "LAW": return row(kind.equals("if") ? "if E < E then E else LAW" : "E");
            case "E": return row("PART SUMS");
            case "SUMS": return row(kind.equals("+") || kind.equals("-") ? kind + " PART SUMS" : "");
            case "PART": return row("UNIT PRODUCTS");
            case "PRODUCTS": return row(kind.equals("*") || kind.equals("/") ? kind + " UNIT PRODUCTS" : "");
            case "UNIT": return row(!unit ? "nothing" : kind.equals("(") ? "( E )" : kind);
            default: return null;
        }
    }

    private static String[] row(String text) {
        return text.isEmpty() ? new String[0] : text.split(" ");
    }

    private static int[] earlyFault(List<Token> tokens) {
        int syntax = syntaxFault(tokens);
        int waves = 0;
        int parties = 0;
        int ifs = 0;
        int depth = 0;
        for (int i = 0; i < (syntax < 0 ? tokens.size() - 1 : syntax); i++) {
            String kind = tokens.get(i).kind();
            waves += kind.equals("wave") ? 1 : 0;
            parties += kind.equals("party") ? 1 : 0;
            ifs = kind.equals("=") ? 0 : kind.equals("if") ? ifs + 1 : ifs;
            depth += kind.equals("(") ? 1 : kind.equals(")") ? -1 : 0;
            if (i == 400 || waves > 5 || parties > 6 || ifs > 4 || depth > 6) {
                return new int[] {2, tokens.get(i).place()};
            }
        }
        return syntax < 0 ? null : new int[] {1, tokens.get(syntax).place()};
    }

    private static int[] lateFault(List<Token> tokens) {
        Set<String> names = new HashSet<>();
        for (int i = 0; i < tokens.size(); i++) {
            String kind = tokens.get(i).kind();
            if (kind.equals("NAME") && !names.add(tokens.get(i).text())) {
                return new int[] {3, tokens.get(i).place()};
            }
            int ints = kind.equals("wave") ? 6 : kind.equals("NAME") ? 2 : 0;
            int sum = 0;
            for (int j = 1; j <= ints; j++) {
                int value = Integer.parseInt(tokens.get(i + j).text());
                sum += value;
                if (value > 9 || j == 6 && sum == 0) {
                    return new int[] {5, tokens.get(i + j).place()};
                }
            }
        }
        return null;
    }

    private List<Token> source;
    private int at;

    private void install(List<Token> tokens) {
        waves = new ArrayList<>();
        parties = new ArrayList<>();
        laws = new HashMap<>();
        seed = 0;
        source = tokens;
        at = 0;
        while (!peek().equals("end")) {
            String what = take().kind();
            if (what.equals("wave")) {
                int[] odds = new int[6];
                for (int i = 0; i < 6; i++) {
                    odds[i] = Integer.parseInt(take().text());
                }
                waves.add(odds);
            } else if (what.equals("party")) {
                take();
                parties.add(new int[] {Integer.parseInt(take().text()), Integer.parseInt(take().text())});
            } else if (what.equals("seed")) {
                seed = Integer.parseInt(take().text());
            } else {
                take();
                laws.put(what, law());
            }
            take();
        }
        now = new State();
        now.found = new Integer[waves.size()];
        now.buoys = new boolean[waves.size()][6];
        now.shifted = new int[waves.size()];
        now.status = new int[parties.size()];
        now.goes = new int[parties.size()];
        past.clear();
        Arrays.fill(slots, null);
        told.clear();
    }

    private String peek() {
        return source.get(at).kind();
    }

    private Token take() {
        return source.get(at++);
    }

    private Law law() {
        List<Formula[]> ifs = new ArrayList<>();
        while (peek().equals("if")) {
            Formula[] parts = new Formula[3];
            for (int i = 0; i < 3; i++) {
                take();
                parts[i] = sum();
            }
            take();
            ifs.add(parts);
        }
        return new Law(ifs, sum());
    }

    private Formula sum() {
        Formula left = product();
        while (peek().equals("+") || peek().equals("-")) {
            boolean plus = take().kind().equals("+");
            Formula one = left;
            Formula other = product();
            left = vars -> plus ? one.tell(vars) + other.tell(vars) : one.tell(vars) - other.tell(vars);
        }
        return left;
    }

    private Formula product() {
        Formula left = unit();
        while (peek().equals("*") || peek().equals("/")) {
            boolean times = take().kind().equals("*");
            Formula one = left;
            Formula other = unit();
            left = vars -> {
                int a = one.tell(vars);
                int b = other.tell(vars);
                if (!times && b == 0) {
                    throw new ByZero();
                }
                return times ? a * b : a / b;
            };
        }
        return left;
    }

    private Formula unit() {
        Token token = take();
        if (token.kind().equals("INT")) {
            int value = Integer.parseInt(token.text());
            return vars -> value;
        }
        if (token.kind().equals("(")) {
            Formula inner = sum();
            take();
            return inner;
        }
        return vars -> vars.getOrDefault(token.kind(), 0);
    }

    private int lawValue(String name, Map<String, Integer> vars) {
        Law law = laws.get(name);
        if (law == null) {
            return name.equals("needs") ? vars.getOrDefault("heavy", 0) : name.equals("shifts") ? 0 : 1;
        }
        try {
            for (Formula[] parts : law.ifs()) {
                if (parts[0].tell(vars) < parts[1].tell(vars)) {
                    return parts[2].tell(vars);
                }
            }
            return law.last().tell(vars);
        } catch (ByZero zero) {
            return 0;
        }
    }

    // ---- how it is ----

    private static int lot(int n, int seed, int which) {
        long h = seed & 0xffffffffL;
        for (long it : new long[] {173, which & 0xffffffffL}) {
            h = ((h ^ it) * 1103515245L + 12345L) & 0xffffffffL;
            h = h ^ (h >> 15);
        }
        return (int) ((h >> 1) % n);
    }

    private int there(State s, int wave, int bySeed) {
        int[] odds = waves.get(wave);
        int drawn = lot(Arrays.stream(odds).sum(), bySeed, 8 * s.shifted[wave] + wave);
        int added = 0;
        int v = -1;
        while (added <= drawn) {
            v++;
            added += odds[v];
        }
        return v;
    }

    private boolean may(State s, int wave, int thing) {
        if (s.found[wave] != null) {
            return s.found[wave] == thing;
        }
        return waves.get(wave)[thing] > 0 && !s.buoys[wave][thing];
    }

    private int mayBits(State s, int wave) {
        int bits = 0;
        for (int thing = 0; thing < 6; thing++) {
            bits += may(s, wave, thing) ? 1 << thing : 0;
        }
        return bits;
    }

    private static int bits(boolean[] row) {
        int bits = 0;
        for (int i = 0; i < row.length; i++) {
            bits += row[i] ? 1 << i : 0;
        }
        return bits;
    }

    private Map<String, Integer> vars(State s, int party, int wave, int thing) {
        Map<String, Integer> vars = new HashMap<>();
        vars.put("year", s.year);
        if (party >= 0) {
            vars.put("heavy", parties.get(party)[0]);
            vars.put("nerve", parties.get(party)[1]);
            vars.put("which", party);
            vars.put("goes", s.goes[party]);
        }
        if (wave >= 0) {
            vars.put("at", wave);
            vars.put("left", Integer.bitCount(mayBits(s, wave)));
            vars.put("buoys", Integer.bitCount(bits(s.buoys[wave])));
        }
        if (thing >= 0) {
            vars.put("odds", waves.get(wave)[thing]);
        }
        return vars;
    }

    private static int clamp(int value, int most) {
        return value < 0 ? 0 : value > most ? most : value;
    }

    private int need(State s, int party, int wave, int thing) {
        return clamp(lawValue("needs", vars(s, party, wave, thing)), 9);
    }

    private int fare(State s, int party) {
        return clamp(lawValue("fares", vars(s, party, -1, -1)), 99);
    }

    private boolean dare(State s, int party) {
        return lawValue("dares", vars(s, party, -1, -1)) > 0;
    }

    private int shift(State s, int wave) {
        return clamp(lawValue("shifts", vars(s, -1, wave, -1)), 100);
    }

    private int[] things(int guess) {
        int[] things = new int[waves.size()];
        int weight = guesses();
        for (int wave = waves.size() - 1; wave >= 0; wave--) {
            weight /= 6;
            things[wave] = guess / weight;
            guess %= weight;
        }
        return things;
    }

    private int guesses() {
        int n = 1;
        for (int i = 0; i < waves.size(); i++) {
            n *= 6;
        }
        return n;
    }

    /** What is there is given, so that a CASE can stand for it. */
    private int send(State s, int party, int guess, int[] truth) {
        State before = s.copy();
        s.paid += fare(before, party);
        s.goes[party]++;
        int[] things = things(guess);
        for (int wave = 0; wave < waves.size(); wave++) {
            if (waves.get(wave)[things[wave]] < need(before, party, wave, things[wave])) {
                s.status[party] = 1;
                return wave;
            }
            if (truth[wave] != things[wave]) {
                s.buoys[wave][things[wave]] = true;
                return wave;
            }
            s.found[wave] = things[wave];
        }
        s.status[party] = 2;
        return waves.size();
    }

    private int[] truth(State s, int bySeed) {
        int[] truth = new int[waves.size()];
        for (int wave = 0; wave < waves.size(); wave++) {
            truth[wave] = there(s, wave, bySeed);
        }
        return truth;
    }

    private void pass(State s) {
        State before = s.copy();
        for (int wave = 0; wave < waves.size(); wave++) {
            if (lot(100, seed, 8 * before.year + 1000000 + wave) < shift(before, wave)) {
                s.shifted[wave]++;
                s.found[wave] = null;
                s.buoys[wave] = new boolean[6];
            }
        }
        s.year++;
    }

    private boolean isWave(int wave) {
        return wave >= 0 && wave < waves.size();
    }

    private boolean isParty(int party) {
        return party >= 0 && party < parties.size();
    }

    private boolean isGuess(int guess) {
        return guess >= 0 && guess < guesses();
    }

    private static boolean isThing(int thing) {
        return thing >= 0 && thing <= 5;
    }

    int wave(int wave, int what) {
        if (!isWave(wave) || what < 0 || what > 5) {
            return -1;
        }
        return new int[] {mayBits(now, wave), now.found[wave] == null ? -2 : now.found[wave],
            bits(now.buoys[wave]), now.shifted[wave], there(now, wave, seed), shift(now, wave)}[what];
    }

    int odds(int wave, int thing) {
        return isWave(wave) && isThing(thing) ? waves.get(wave)[thing] : -1;
    }

    int party(int party, int what) {
        if (!isParty(party) || what < 0 || what > 5) {
            return -1;
        }
        return new int[] {parties.get(party)[0], parties.get(party)[1], now.status[party], now.goes[party],
            fare(now, party), dare(now, party) ? 1 : 0}[what];
    }

    int needs(int party, int wave, int thing) {
        return isParty(party) && isWave(wave) && isThing(thing) ? need(now, party, wave, thing) : -1;
    }

    // ---- what is done ----

    private void keep() {
        past.addLast(now.copy());
        if (past.size() > 40) {
            past.removeFirst();
        }
    }

    int go(int party, int guess) {
        if (!isParty(party) || now.status[party] != 0 || waves.isEmpty() || !isGuess(guess)) {
            return -1;
        }
        keep();
        return send(now, party, guess, truth(now, seed));
    }

    boolean buoy(int wave, int thing, boolean laid) {
        if (!isWave(wave) || !isThing(thing) || now.buoys[wave][thing] == laid) {
            return false;
        }
        keep();
        now.buoys[wave][thing] = laid;
        return true;
    }

    boolean fetch(int party) {
        if (!isParty(party) || now.status[party] == 0) {
            return false;
        }
        keep();
        now.status[party] = 0;
        return true;
    }

    int years(int n) {
        if (n < 0 || n > 40) {
            return -1;
        }
        if (n > 0) {
            keep();
        }
        for (int i = 0; i < n; i++) {
            pass(now);
        }
        return now.year;
    }

    boolean undo() {
        if (past.isEmpty()) {
            return false;
        }
        now = past.removeLast();
        return true;
    }

    // ---- what would be ----

    private int oddsOf(State s, int guess) {
        int[] things = things(guess);
        int product = 1;
        for (int wave = 0; wave < things.length; wave++) {
            product *= may(s, wave, things[wave]) ? waves.get(wave)[things[wave]] : 0;
        }
        return product;
    }

    private boolean isCase(State s, int guess) {
        int[] things = things(guess);
        for (int wave = 0; wave < things.length; wave++) {
            if (!may(s, wave, things[wave])) {
                return false;
            }
        }
        return true;
    }

    private List<Integer> caseList(State s) {
        List<Integer> list = new ArrayList<>();
        for (int guess = 0; guess < guesses(); guess++) {
            if (isCase(s, guess)) {
                list.add(guess);
            }
        }
        return list;
    }

    private int best(State s, List<Integer> list) {
        int best = -2;
        for (int guess : list) {
            if (best < 0 || oddsOf(s, guess) > oddsOf(s, best)) {
                best = guess;
            }
        }
        return best;
    }

    private int borne(State s, int party, int guess) {
        int[] things = things(guess);
        int wave = 0;
        while (wave < things.length && waves.get(wave)[things[wave]] >= need(s, party, wave, things[wave])) {
            wave++;
        }
        return wave;
    }

    private int safestOf(State s, int party) {
        List<Integer> list = caseList(s);
        list.removeIf(guess -> borne(s, party, guess) < waves.size());
        return best(s, list);
    }

    int cases() {
        return caseList(now).size();
    }

    int chance(int guess) {
        return isGuess(guess) ? oddsOf(now, guess) : -1;
    }

    private int added(List<Integer> list) {
        int sum = 0;
        for (int guess : list) {
            sum += oddsOf(now, guess);
        }
        return sum;
    }

    int all() {
        return added(caseList(now));
    }

    int likeliest() {
        return best(now, caseList(now));
    }

    int bears(int party, int guess) {
        return isParty(party) && isGuess(guess) ? borne(now, party, guess) : -1;
    }

    int safest(int party) {
        return isParty(party) ? safestOf(now, party) : -1;
    }

    /** All ways to go and all that can come of it; a go tells what send() finds out. */
    private int goes(List<Integer> left, Map<List<Integer>, Integer> known) {
        Integer seen = known.get(left);
        if (seen != null) {
            return seen;
        }
        int most = 1;
        for (int guess : left) {
            for (List<Integer> rest : outcomes(left, guess)) {
                most = Math.max(most, 1 + goes(rest, known));
            }
        }
        known.put(left, most);
        return most;
    }

    /** Of going by a GUESS: the CASES left for each WAVE at which one can be let down. */
    private List<List<Integer>> outcomes(List<Integer> left, int guess) {
        List<List<Integer>> outcomes = new ArrayList<>();
        for (int wave = 0; wave < waves.size(); wave++) {
            List<Integer> rest = new ArrayList<>();
            for (int other : left) {
                if (alike(guess, other) == wave) {
                    rest.add(other);
                }
            }
            if (!rest.isEmpty()) {
                outcomes.add(rest);
            }
        }
        return outcomes;
    }

    int enough() {
        List<Integer> list = caseList(now);
        return list.isEmpty() ? -2 : goes(list, new HashMap<>());
    }

    private int leftOf(List<Integer> list, int guess) {
        int most = 0;
        for (List<Integer> rest : outcomes(list, guess)) {
            most = Math.max(most, rest.size());
        }
        return list.contains(guess) ? Math.max(most, 1) : most;
    }

    int left(int guess) {
        List<Integer> list = caseList(now);
        return !isGuess(guess) ? -1 : list.isEmpty() ? -2 : leftOf(list, guess);
    }

    int wisest(int what) {
        List<Integer> list = caseList(now);
        if (what != 0 && what != 1) {
            return -1;
        }
        if (list.isEmpty()) {
            return -2;
        }
        int best = 0;
        int least = leftOf(list, 0);
        for (int guess = 1; guess < guesses(); guess++) {
            int left = leftOf(list, guess);
            if (left < least) {
                least = left;
                best = guess;
            }
        }
        return what == 0 ? best : least;
    }

    private List<Integer> byRank() {
        List<Integer> list = caseList(now);
        list.sort((a, b) -> oddsOf(now, a) != oddsOf(now, b) ? oddsOf(now, b) - oddsOf(now, a) : a - b);
        return list;
    }

    int rank(int guess) {
        return !isGuess(guess) ? -1 : !isCase(now, guess) ? -2 : byRank().indexOf(guess);
    }

    int ranked(int i) {
        return i < 0 || i > 19 || i >= cases() ? -1 : byRank().get(i);
    }

    int share(int wave, int thing) {
        if (!isWave(wave) || !isThing(thing)) {
            return -1;
        }
        List<Integer> list = caseList(now);
        list.removeIf(guess -> things(guess)[wave] != thing);
        return added(list);
    }

    int sure(int party, int n) {
        if (!isParty(party) || now.status[party] != 0 || waves.isEmpty() || n < 1 || n > 8) {
            return -1;
        }
        int sum = 0;
        for (int truth : caseList(now)) {
            State s = now.copy();
            for (int i = 0; i < n && s.status[party] == 0; i++) {
                int guess = safestOf(s, party);
                if (guess < 0) {
                    break;
                }
                send(s, party, guess, things(truth));
            }
            sum += s.status[party] == 2 ? oddsOf(now, truth) : 0;
        }
        return sum;
    }

    int alike(int guess, int other) {
        if (!isGuess(guess) || !isGuess(other)) {
            return -1;
        }
        int i = Arrays.mismatch(things(guess), things(other));
        return i < 0 ? waves.size() : i;
    }

    private int partyBits(java.util.function.IntPredicate is) {
        int bits = 0;
        for (int party = 0; party < parties.size(); party++) {
            bits += is.test(party) ? 1 << party : 0;
        }
        return bits;
    }

    private int waveBits(java.util.function.IntPredicate is) {
        int bits = 0;
        for (int wave = 0; wave < waves.size(); wave++) {
            bits += is.test(wave) ? 1 << wave : 0;
        }
        return bits;
    }

    int sunk(int guess) {
        return !isGuess(guess) ? -1
            : partyBits(p -> now.status[p] == 0 && borne(now, p, guess) != waves.size());
    }

    int stuck() {
        return partyBits(p -> now.status[p] == 0 && safestOf(now, p) == -2);
    }

    int spread(int wave) {
        if (!isWave(wave)) {
            return -1;
        }
        List<Integer> odds = new ArrayList<>();
        for (int thing = 0; thing < 6; thing++) {
            if (may(now, wave, thing)) {
                odds.add(waves.get(wave)[thing]);
            }
        }
        odds.sort(null);
        return odds.isEmpty() ? 0 : odds.get(odds.size() - 1) - odds.get(0);
    }

    private int first(int n, ToIntFunction<Integer> worth, int above) {
        int best = -2;
        for (int i = 0; i < n; i++) {
            if (worth.applyAsInt(i) > above && (best < 0 || worth.applyAsInt(i) > worth.applyAsInt(best))) {
                best = i;
            }
        }
        return best;
    }

    int dearest(int what) {
        if (what != 0 && what != 1) {
            return -1;
        }
        int who = first(parties.size(), p -> fare(now, p), -1);
        return what == 0 || who == -2 ? who : fare(now, who);
    }

    int chosen() {
        return first(parties.size(), p -> {
            int guess = now.status[p] == 0 ? safestOf(now, p) : -2;
            return guess == -2 ? -1 : oddsOf(now, guess);
        }, -1);
    }

    int allGo(int what) {
        if (what < 0 || what > 2) {
            return -1;
        }
        State s = now.copy();
        for (int party = 0; party < parties.size(); party++) {
            if (s.status[party] == 0 && dare(s, party) && safestOf(s, party) >= 0) {
                send(s, party, safestOf(s, party), truth(s, seed));
            }
        }
        int[] answers = {0, 0, s.paid - now.paid};
        for (int status : s.status) {
            answers[0] += status == 2 ? 1 : 0;
            answers[1] += status == 1 ? 1 : 0;
        }
        return answers[what];
    }

    int darers() {
        return partyBits(p -> now.status[p] == 0 && dare(now, p));
    }

    int open() {
        return waveBits(w -> Integer.bitCount(mayBits(now, w)) > 1);
    }

    int then(int wave, int n, int what) {
        if (!isWave(wave) || n < 0 || n > 40 || what < 0 || what > 2) {
            return -1;
        }
        State s = now.copy();
        for (int i = 0; i < n; i++) {
            pass(s);
        }
        return what == 0 ? mayBits(s, wave) : what == 1 ? s.shifted[wave] : there(s, wave, seed);
    }

    int next(int wave) {
        if (!isWave(wave)) {
            return -1;
        }
        for (int n = 1; n <= 40; n++) {
            if (then(wave, n, 1) > now.shifted[wave]) {
                return n;
            }
        }
        return -2;
    }

    int year(int guess, int s) {
        if (!isGuess(guess) || s < 1 || s > 20) {
            return -1;
        }
        int n = 0;
        for (int i = 0; i < s; i++) {
            n += Arrays.equals(truth(now, seed + i), things(guess)) ? 1 : 0;
        }
        return n;
    }

    int drawn(int wave, int s) {
        if (!isWave(wave) || s < 1 || s > 20) {
            return -1;
        }
        Set<Integer> set = new HashSet<>();
        for (int i = 0; i < s; i++) {
            set.add(there(now, wave, seed + i));
        }
        return set.size();
    }

    // ---- what tellers say ----

    int tell(int wave, int things, boolean so) {
        if (told.size() >= 20 || !isWave(wave) || things < 1 || things > 63) {
            return -1;
        }
        told.add(new Told(wave, things, so));
        return told.size() - 1;
    }

    int forget() {
        int n = told.size();
        told.clear();
        return n;
    }

    private boolean isSo(Told one, int guess) {
        return ((one.things() & 1 << things(guess)[one.wave()]) != 0) == one.so();
    }

    private List<Integer> fitList(int k, int l) {
        List<Integer> list = caseList(now);
        list.removeIf(guess -> told.subList(0, k).stream().filter(one -> !isSo(one, guess)).count() > l);
        return list;
    }

    private boolean isSuch(int k, int l) {
        return k >= 0 && k <= told.size() && l >= 0 && l <= 3;
    }

    int fit(int k, int l, int what) {
        if (!isSuch(k, l) || what != 0 && what != 1) {
            return -1;
        }
        return what == 0 ? fitList(k, l).size() : added(fitList(k, l));
    }

    int lie(int k, int l) {
        if (!isSuch(k, l)) {
            return -1;
        }
        int bits = 0;
        List<Integer> list = fitList(k, l);
        for (int i = 0; i < k; i++) {
            Told one = told.get(i);
            bits += list.stream().noneMatch(guess -> isSo(one, guess)) ? 1 << i : 0;
        }
        return bits;
    }

    int ask(int k, int l) {
        if (!isSuch(k, l)) {
            return -1;
        }
        List<Integer> list = fitList(k, l);
        if (list.isEmpty() || waves.isEmpty()) {
            return -2;
        }
        return first(waves.size(), wave -> {
            int[] counts = new int[6];
            for (int guess : list) {
                counts[things(guess)[wave]]++;
            }
            return -Arrays.stream(counts).max().getAsInt();
        }, Integer.MIN_VALUE);
    }

    // ---- held ----

    boolean hold(int slot) {
        if (slot < 0 || slot > 2) {
            return false;
        }
        slots[slot] = now.copy();
        return true;
    }

    boolean restore(int slot) {
        if (slot < 0 || slot > 2 || slots[slot] == null) {
            return false;
        }
        now = slots[slot].copy();
        past.clear();
        return true;
    }

    int count(int what) {
        switch (what) {
            case 0: return waves.size();
            case 1: return parties.size();
            case 2: return now.year;
            case 3: return now.paid;
            case 4: return partyBits(p -> now.status[p] == 0);
            case 5: return partyBits(p -> now.status[p] == 1);
            case 6: return partyBits(p -> now.status[p] == 2);
            case 7: return Arrays.stream(now.goes).sum();
            case 8: return tape.length();
            case 9: return past.size();
            case 10: return told.size();
            case 11: return (int) Arrays.stream(slots).filter(s -> s != null).count();
            case 12: return Arrays.stream(now.buoys).mapToInt(row -> Integer.bitCount(bits(row))).sum();
            case 13: return waveBits(w -> now.found[w] != null);
            case 14: return guesses();
            case 15: {
                int number = 0;
                int[] truth = truth(now, seed);
                for (int w = truth.length - 1; w >= 0; w--) {
                    number = number * 6 + truth[w];
                }
                return number;
            }
            case 16: return Arrays.stream(now.shifted).sum();
            case 17: return waveBits(w -> mayBits(now, w) == 0);
            case 18: {
                int sum = 0;
                for (int p = 0; p < parties.size(); p++) {
                    sum += now.status[p] == 0 ? fare(now, p) : 0;
                }
                return sum;
            }
            default: return -1;
        }
    }
}
