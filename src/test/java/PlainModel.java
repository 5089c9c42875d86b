import java.util.ArrayList;
import java.util.Arrays;
import java.util.HashMap;
import java.util.List;
import java.util.Map;

/**
 * The document once more, in its plainest form and with no thought of speed: each term is worked out from its
 * own words each time it is asked for. RandomRunsTest sets it beside the class.
 */
final class PlainModel {
    private static final List<String> KINDS = List.of("offer", "ask", "yes", "but", "no", "back", "deed", "send");
    private static final List<String> WAYS = List.of("post", "wire", "mouth", "deed");
    private static final List<String> WHENS = List.of("sent", "come", "read");
    private static final List<String> WORDS = List.of("price", "much", "day", "port", "court");
    private static final List<String> HANDS = List.of("a", "b", "c");

    private static final class Fault extends Exception {
        private static final long serialVersionUID = 1L;
        final int place;

        Fault(int place) {
            this.place = place;
        }
    }

    private record Token(String text, int place) {
    }

    private record Span(int first, int last, boolean asked) {
    }

    private record Saying(String kind, int hand, int to, int said, String way, int hold, int given, int[] words,
            Span at, Span after, Span read, boolean mayBeLost, boolean surelyLost) {
    }

    /** A RULE: which cell of rule() it tells, and what. */
    private record Rule(int what, int value) {
    }

    private record State(List<List<Saying>> cases, List<List<Rule>> laws, List<Integer> ruleCounts,
            List<List<Rule>> clauses) {
        State copy() {
            return new State(new ArrayList<>(cases), new ArrayList<>(laws), new ArrayList<>(ruleCounts),
                    new ArrayList<>(clauses));
        }
    }

    private record Bargain(int yes, int offer, int hour) {
    }

    private final StringBuilder tape = new StringBuilder();
    private State state = new State(new ArrayList<>(), new ArrayList<>(), new ArrayList<>(), new ArrayList<>());
    private final List<State> images = new ArrayList<>();
    private int fault = -1;

    // ---- texts

    private List<Token> tokens = new ArrayList<>();
    private int next = 0;

    private void tokenize(String text) {
        tokens = new ArrayList<>();
        next = 0;
        int i = 0;
        while (i < text.length()) {
            char c = text.charAt(i);
            int from = i++;
            if (c == 32 || c == 10) {
                continue;
            }
            if (c >= 'a' && c <= 'z') {
                while (i < text.length() && text.charAt(i) >= 'a' && text.charAt(i) <= 'z') {
                    i++;
                }
            } else if (c >= '0' && c <= '9') {
                while (i < text.length() && text.charAt(i) >= '0' && text.charAt(i) <= '9') {
                    i++;
                }
            }
            tokens.add(new Token(text.substring(from, i), from));
        }
        tokens.add(new Token("", text.length()));
    }

    private Token peek() {
        return tokens.get(next);
    }

    private boolean atEnd() {
        return peek().text().isEmpty();
    }

    private Fault here() {
        return new Fault(peek().place());
    }

    private boolean take(String word) {
        if (!peek().text().equals(word)) {
            return false;
        }
        next++;
        return true;
    }

    private void need(String word) throws Fault {
        if (!take(word)) {
            throw here();
        }
    }

    private int oneOf(List<String> words) throws Fault {
        int index = words.indexOf(peek().text());
        if (index < 0) {
            throw here();
        }
        next++;
        return index;
    }

    private int number(int least, int most) throws Fault {
        if (!peek().text().matches("[0-9]{1,4}")) {
            throw here();
        }
        int value = Integer.parseInt(peek().text());
        if (value < least || value > most) {
            throw here();
        }
        next++;
        return value;
    }

    private Span span(int most) throws Fault {
        int first = number(0, most);
        if (!take("to")) {
            return new Span(first, first, false);
        }
        return new Span(first, number(first, Math.min(most, first + 15)), true);
    }

    private static boolean isOfferText(Saying s) {
        return s.kind().equals("offer") || s.kind().equals("but");
    }

    private List<Saying> sayings(List<Saying> old, int ahead) throws Fault {
        List<Saying> all = new ArrayList<>(old);
        while (!atEnd()) {
            if (all.size() == 12) {
                throw here();
            }
            all.add(saying(all, ahead));
            need(";");
        }
        if (all.size() == old.size()) {
            throw here();
        }
        return all;
    }

    private Saying saying(List<Saying> all, int ahead) throws Fault {
        List<String> verbs = List.of("offer", "ask", "yes", "no", "back", "deed", "send");
        String kind = verbs.get(oneOf(verbs));
        int hand = oneOf(HANDS);
        int to = -1;
        int said = -1;
        int hold = -1;
        int given = -1;
        int[] words = {-1, -1, -1, -1, -1};
        if (kind.equals("offer") || kind.equals("ask")) {
            if (peek().text().equals(HANDS.get(hand))) {
                throw here();
            }
            to = oneOf(HANDS);
        } else {
            Token token = peek();
            said = number(0, 9999);
            if (said >= all.size() || !mayAnswer(kind, hand, all.get(said))) {
                throw new Fault(token.place());
            }
        }
        if (kind.equals("offer")) {
            while (WORDS.contains(peek().text())) {
                int w = oneOf(WORDS);
                words[w] = number(0, 999);
            }
            if (take("hold")) {
                hold = number(0, 1999);
            }
            if (take("given")) {
                given = number(0, ahead - 1);
            }
        }
        if (kind.equals("yes") && take("but")) {
            kind = "but";
            to = all.get(said).hand();
            do {
                int w = oneOf(WORDS);
                words[w] = number(0, 999);
            } while (WORDS.contains(peek().text()));
        }
        String way = WAYS.get(oneOf(WAYS));
        need("at");
        Span at = span(1999);
        Span after = new Span(0, 0, false);
        Span read = new Span(0, 0, false);
        boolean lost = false;
        if (way.equals("post") || way.equals("wire")) {
            need("after");
            after = span(999);
            if (take("read")) {
                read = span(999);
            }
            lost = take("lost");
        }
        return new Saying(kind, hand, to, said, way, hold, given, words, at, after, read, lost, false);
    }

    private static boolean mayAnswer(String kind, int hand, Saying said) {
        switch (kind) {
            case "yes":
            case "no":
            case "deed":
                return isOfferText(said) && said.to() == hand;
            case "back":
                return (isOfferText(said) || said.kind().equals("yes")) && said.hand() == hand;
            default:
                return isOfferText(said) && said.hand() == hand;
        }
    }

    private int rulesRead = 0;

    private List<Rule> rules(int fewest) throws Fault {
        List<Rule> all = new ArrayList<>();
        rulesRead = 0;
        while (!atEnd()) {
            if (rulesRead == 20) {
                throw here();
            }
            rule(all);
            need(";");
            rulesRead++;
        }
        if (rulesRead < fewest) {
            throw here();
        }
        return all;
    }

    private void rule(List<Rule> all) throws Fault {
        List<String> verbs = List.of("yes", "offer", "back", "no", "hold", "lapse", "silence", "but", "form", "deed",
                "risk");
        String verb = verbs.get(oneOf(verbs));
        switch (verb) {
            case "yes": {
                int way = oneOf(List.of("post", "wire", "mouth", "all"));
                int when = oneOf(WHENS);
                for (int w = 0; w < 3; w++) {
                    if (way == 3 || way == w) {
                        all.add(new Rule(w, when));
                    }
                }
                break;
            }
            case "offer":
                all.add(new Rule(3, oneOf(WHENS)));
                break;
            case "back":
                all.add(new Rule(4, oneOf(WHENS)));
                break;
            case "no":
                all.add(new Rule(5, oneOf(WHENS)));
                break;
            case "hold":
                all.add(new Rule(6, oneOf(List.of("free", "binds"))));
                break;
            case "lapse":
                all.add(new Rule(7, number(0, 999)));
                break;
            case "silence":
                all.add(new Rule(8, number(0, 999)));
                break;
            case "but":
                all.add(new Rule(9, oneOf(List.of("no", "small"))));
                break;
            case "form":
                all.add(new Rule(10, oneOf(List.of("first", "last", "none"))));
                break;
            case "deed":
                all.add(new Rule(11, oneOf(List.of("none", "yes"))));
                break;
            default:
                all.add(new Rule(12, oneOf(List.of("bargain", "sent", "come"))));
                break;
        }
    }

    private String cut(int n) {
        String text = tape.substring(0, n);
        tape.setLength(0);
        return text;
    }

    // ---- COMBOS

    private static List<Integer> counts(List<Saying> tale) {
        List<Integer> counts = new ArrayList<>();
        for (Saying s : tale) {
            for (Span span : List.of(s.at(), s.after(), s.read())) {
                if (span.asked()) {
                    counts.add(span.last() - span.first() + 1);
                }
            }
            if (s.mayBeLost()) {
                counts.add(2);
            }
        }
        return counts;
    }

    private static int combos(List<Saying> tale) {
        long product = 1;
        for (int c : counts(tale)) {
            product *= c;
            if (product > 1024) {
                return -1;
            }
        }
        return (int) product;
    }

    private static int[] digits(List<Saying> tale, int combo) {
        List<Integer> counts = counts(tale);
        int[] digits = new int[counts.size()];
        int rest = combo;
        for (int i = 0; i < digits.length; i++) {
            digits[i] = rest % counts.get(i);
            rest /= counts.get(i);
        }
        return digits;
    }

    /** Of each SAYING when it is sent, comes, is read (-1: never). */
    private static int[][] hours(List<Saying> tale, int combo) {
        int[] digits = digits(tale, combo);
        int[][] hours = new int[tale.size()][3];
        int d = 0;
        for (int k = 0; k < tale.size(); k++) {
            Saying s = tale.get(k);
            int at = s.at().first() + (s.at().asked() ? digits[d++] : 0);
            int after = s.after().first() + (s.after().asked() ? digits[d++] : 0);
            int read = s.read().first() + (s.read().asked() ? digits[d++] : 0);
            boolean lost = s.surelyLost();
            if (s.mayBeLost()) {
                lost = digits[d++] == 1;
            }
            hours[k] = new int[] {at, lost ? -1 : at + after, lost ? -1 : at + after + read};
        }
        return hours;
    }

    // ---- one CASE by one LAW in one COMBO

    private final class View {
        final List<Saying> tale;
        final List<Rule> law;
        final int[][] hours;

        View(List<Saying> tale, List<Rule> law, int combo) {
            this.tale = tale;
            this.law = law;
            this.hours = hours(tale, combo);
        }

        int cell(int what) {
            return lawCell(law, what);
        }

        boolean isSmall(int k) {
            int[] w = tale.get(k).words();
            return tale.get(k).kind().equals("but") && cell(9) == 1 && w[0] == -1 && w[1] == -1 && w[2] == -1;
        }

        boolean isOffer(int k) {
            return isOfferText(tale.get(k)) && !isSmall(k);
        }

        boolean isNo(int k) {
            return tale.get(k).kind().equals("no") || (tale.get(k).kind().equals("but") && !isSmall(k));
        }

        boolean isYes(int k) {
            String kind = tale.get(k).kind();
            return kind.equals("yes") || isSmall(k) || (kind.equals("deed") && cell(11) == 1);
        }

        int yesHour(int k) {
            if (tale.get(k).kind().equals("deed")) {
                return hours[k][0];
            }
            return hours[k][cell(Math.min(WAYS.indexOf(tale.get(k).way()), 2))];
        }

        int backHour(int k) {
            return hours[k][cell(4)];
        }

        int from(int k) {
            int given = tale.get(k).given();
            return given != -1 && !isSure(given, law) ? -1 : hours[k][cell(3)];
        }

        boolean backDoesSomething(int offer, int hour) {
            int hold = tale.get(offer).hold();
            return hold == -1 || cell(6) == 0 || hour > hold;
        }

        /** Hour, why (1 to 4) and by which SAYING, of each thing that would end it, the first reasons first. */
        List<int[]> ends(int offer) {
            List<int[]> all = new ArrayList<>();
            for (int k = 0; k < tale.size(); k++) {
                if (tale.get(k).said() == offer && tale.get(k).kind().equals("back") && backHour(k) != -1
                        && backDoesSomething(offer, backHour(k))) {
                    all.add(new int[] {backHour(k), 1, k});
                }
            }
            for (int k = 0; k < tale.size(); k++) {
                if (tale.get(k).said() == offer && isNo(k) && hours[k][cell(5)] != -1) {
                    all.add(new int[] {hours[k][cell(5)], 2, k});
                }
            }
            if (tale.get(offer).hold() != -1) {
                all.add(new int[] {tale.get(offer).hold() + 1, 3, -1});
            } else if (cell(7) != -1 && hours[offer][1] != -1) {
                all.add(new int[] {hours[offer][1] + cell(7) + 1, 4, -1});
            }
            return all;
        }

        int[] end(int offer) {
            int[] least = {9999, 0, -1};
            for (int[] one : ends(offer)) {
                if (one[0] < least[0]) {
                    least = one;
                }
            }
            return least;
        }

        boolean isOpen(int offer, int hour) {
            return isOffer(offer) && from(offer) != -1 && from(offer) <= hour && hour < end(offer)[0];
        }

        boolean takenBackAhead(int yes) {
            for (int k = 0; k < tale.size(); k++) {
                if (tale.get(k).kind().equals("back") && tale.get(k).said() == yes && backHour(k) != -1
                        && backHour(k) < yesHour(yes)) {
                    return true;
                }
            }
            return false;
        }

        boolean answeredBy(int offer, int hour) {
            for (int k = 0; k < tale.size(); k++) {
                if (tale.get(k).said() == offer && List.of("yes", "but", "no", "deed").contains(tale.get(k).kind())
                        && hours[k][0] <= hour) {
                    return true;
                }
            }
            return false;
        }

        Bargain bargain() {
            Bargain best = null;
            for (int k = 0; k < tale.size(); k++) {
                int offer = tale.get(k).said();
                if (isYes(k) && yesHour(k) != -1 && hours[offer][1] != -1 && hours[offer][1] <= hours[k][0]
                        && !takenBackAhead(k) && isOpen(offer, yesHour(k))
                        && (best == null || yesHour(k) < best.hour())) {
                    best = new Bargain(k, offer, yesHour(k));
                }
            }
            for (int k = 0; k < tale.size(); k++) {
                if (cell(8) != -1 && isOffer(k) && hours[k][2] != -1) {
                    int hour = hours[k][2] + cell(8);
                    if (isOpen(k, hour) && !answeredBy(k, hour) && (best == null || hour < best.hour())) {
                        best = new Bargain(-1, k, hour);
                    }
                }
            }
            return best;
        }

        int offerWord(int offer, int w) {
            int own = tale.get(offer).words()[w];
            if (own == -1 && tale.get(offer).kind().equals("but")) {
                return offerWord(tale.get(offer).said(), w);
            }
            return own;
        }

        int word(Bargain b, int w) {
            if (b.yes() != -1 && isSmall(b.yes()) && tale.get(b.yes()).words()[w] != -1 && cell(10) != 0) {
                return cell(10) == 1 ? tale.get(b.yes()).words()[w] : -1;
            }
            return offerWord(b.offer(), w);
        }

        int can(int hand, int hour) {
            Bargain b = bargain();
            if (b != null && hour >= b.hour()) {
                return 0;
            }
            int bits = 0;
            for (int k = 0; k < tale.size(); k++) {
                if (isOpen(k, hour)) {
                    Saying s = tale.get(k);
                    if (s.hand() == hand && (s.hold() == -1 || cell(6) == 0 || s.hold() < hour)) {
                        bits |= 1;
                    }
                    if (s.to() == hand && hours[k][1] != -1 && hours[k][1] <= hour) {
                        bits |= 2;
                    }
                }
            }
            return bits;
        }
    }

    private static int lawCell(List<Rule> law, int what) {
        int value = new int[] {1, 1, 1, 1, 1, 1, 0, -1, -1, 0, 0, 0, 0}[what];
        for (Rule r : law) {
            if (r.what() == what) {
                value = r.value();
            }
        }
        return value;
    }

    private int countBargains(List<Saying> tale, List<Rule> law) {
        int many = 0;
        for (int c = 0; c < combos(tale); c++) {
            many += new View(tale, law, c).bargain() == null ? 0 : 1;
        }
        return many;
    }

    private record Given(int number, List<Rule> law) {
    }

    /** Only so that the runs end in time: it's emptied whenever a CASE changes. */
    private final Map<Given, Boolean> sureOnes = new HashMap<>();

    private boolean isSure(int number, List<Rule> law) {
        Boolean known = sureOnes.get(new Given(number, law));
        if (known == null) {
            List<Saying> tale = state.cases().get(number);
            known = combos(tale) != -1 && countBargains(tale, law) == combos(tale);
            sureOnes.put(new Given(number, law), known);
        }
        return known;
    }

    private boolean hasCase(int number) {
        return number >= 0 && number < state.cases().size();
    }

    private boolean hasLaw(int law) {
        return law >= 0 && law < state.laws().size();
    }

    private boolean isLooked(int number, int law) {
        return hasCase(number) && hasLaw(law) && combos(state.cases().get(number)) != -1;
    }

    private View view(int number, int law, int combo) {
        if (!isLooked(number, law) || combo < 0 || combo >= combos(state.cases().get(number))) {
            return null;
        }
        return new View(state.cases().get(number), state.laws().get(law), combo);
    }

    // ---- the face

    int feed(int a, int b, int c, int d, int e) {
        if (tape.length() + 20 > 900) {
            return -1;
        }
        for (int four : new int[] {a, b, c, d, e}) {
            for (int shift = 24; shift >= 0; shift -= 8) {
                tape.append((char) (four >>> shift & 255));
            }
        }
        return tape.length();
    }

    int tell(int n) {
        if (n < 0 || n > tape.length()) {
            return -2;
        }
        if (state.cases().size() == 16) {
            return -3;
        }
        tokenize(cut(n));
        try {
            fault = -1;
            state.cases().add(sayings(List.of(), state.cases().size()));
            return state.cases().size() - 1;
        } catch (Fault f) {
            fault = f.place;
            return -1;
        }
    }

    int more(int number, int n) {
        if (n < 0 || n > tape.length() || !hasCase(number)) {
            return -2;
        }
        tokenize(cut(n));
        try {
            fault = -1;
            state.cases().set(number, sayings(state.cases().get(number), number));
            sureOnes.clear();
            return state.cases().get(number).size();
        } catch (Fault f) {
            fault = f.place;
            return -1;
        }
    }

    int law(int n) {
        if (n < 0 || n > tape.length()) {
            return -2;
        }
        if (state.laws().size() == 8) {
            return -3;
        }
        tokenize(cut(n));
        try {
            fault = -1;
            state.laws().add(rules(0));
            state.ruleCounts().add(rulesRead);
            return state.laws().size() - 1;
        } catch (Fault f) {
            fault = f.place;
            return -1;
        }
    }

    int clause(int n) {
        if (n < 0 || n > tape.length()) {
            return -2;
        }
        if (state.clauses().size() == 6) {
            return -3;
        }
        tokenize(cut(n));
        try {
            fault = -1;
            state.clauses().add(rules(1));
            return state.clauses().size() - 1;
        } catch (Fault f) {
            fault = f.place;
            return -1;
        }
    }

    int fault() {
        return fault;
    }

    int saying(int number, int k, int what) {
        if (!hasCase(number) || k < 0 || k >= state.cases().get(number).size()) {
            return -2;
        }
        Saying s = state.cases().get(number).get(k);
        switch (what) {
            case 0:
                return KINDS.indexOf(s.kind());
            case 1:
                return s.hand();
            case 2:
                return s.to();
            case 3:
                return s.said();
            case 4:
                return WAYS.indexOf(s.way());
            case 5:
                return s.hold();
            case 6:
                return s.given();
            default:
                return what >= 10 && what <= 14 ? s.words()[what - 10] : -2;
        }
    }

    int asked(int number, int what) {
        if (!hasCase(number) || what < 0 || what > 2) {
            return -2;
        }
        List<Saying> tale = state.cases().get(number);
        return what == 0 ? tale.size() : what == 1 ? counts(tale).size() : combos(tale);
    }

    int hour(int number, int combo, int k, int what) {
        if (!hasCase(number) || combo < 0 || combo >= combos(state.cases().get(number)) || k < 0
                || k >= state.cases().get(number).size() || what < 0 || what > 2) {
            return -2;
        }
        return hours(state.cases().get(number), combo)[k][what];
    }

    int rule(int law, int what) {
        if (!hasLaw(law) || what < 0 || what > 13) {
            return -2;
        }
        return what == 13 ? state.ruleCounts().get(law) : lawCell(state.laws().get(law), what);
    }

    int run(int number, int law, int combo, int what) {
        View v = view(number, law, combo);
        if (v == null || what < 0 || what > 14 || (what > 2 && what < 10)) {
            return -3;
        }
        Bargain b = v.bargain();
        if (b == null) {
            return -2;
        }
        return what == 0 ? b.yes() : what == 1 ? b.offer() : what == 2 ? b.hour() : v.word(b, what - 10);
    }

    int open(int number, int law, int combo, int k, int what) {
        View v = view(number, law, combo);
        if (v == null || k < 0 || k >= v.tale.size() || what < 0 || what > 2 || !v.isOffer(k)) {
            return -2;
        }
        return what == 0 ? v.from(k) : v.end(k)[what - 1];
    }

    int binds(int number, int law, int combo) {
        View v = view(number, law, combo);
        if (v == null) {
            return -2;
        }
        Bargain b = v.bargain();
        return b == null ? 0 : 1 << v.tale.get(b.offer()).hand() | 1 << v.tale.get(b.offer()).to();
    }

    int sure(int number, int law, int what) {
        if (!isLooked(number, law) || what < 0 || what > 4) {
            return -2;
        }
        int[] answers = {0, -1, -1, -1, -1};
        for (int c = 0; c < combos(state.cases().get(number)); c++) {
            Bargain b = view(number, law, c).bargain();
            if (b == null) {
                answers[2] = answers[2] == -1 ? c : answers[2];
            } else {
                answers[0]++;
                answers[1] = answers[1] == -1 ? c : answers[1];
                answers[3] = answers[3] == -1 ? b.hour() : Math.min(answers[3], b.hour());
                answers[4] = Math.max(answers[4], b.hour());
            }
        }
        return answers[what];
    }

    int hang(int number, int law) {
        if (!isLooked(number, law)) {
            return -2;
        }
        List<Saying> tale = state.cases().get(number);
        int asks = counts(tale).size();
        if (asks > 12) {
            return -2;
        }
        boolean[] has = new boolean[combos(tale)];
        for (int c = 0; c < has.length; c++) {
            has[c] = view(number, law, c).bargain() != null;
        }
        for (int many = 0; many <= asks; many++) {
            for (int bits = 0; bits < 1 << asks; bits++) {
                if (Integer.bitCount(bits) == many && tells(tale, bits, has)) {
                    return bits;
                }
            }
        }
        return -99;
    }

    private static boolean tells(List<Saying> tale, int bits, boolean[] has) {
        Map<String, Boolean> seen = new HashMap<>();
        for (int c = 0; c < has.length; c++) {
            int[] digits = digits(tale, c);
            for (int i = 0; i < digits.length; i++) {
                digits[i] = (bits >> i & 1) == 1 ? digits[i] : -1;
            }
            Boolean before = seen.put(Arrays.toString(digits), has[c]);
            if (before != null && before != has[c]) {
                return false;
            }
        }
        return true;
    }

    int bears(int number, int law, int combo, int hour) {
        View v = view(number, law, combo);
        if (v == null || hour < 0) {
            return -2;
        }
        Bargain b = v.bargain();
        if (b == null) {
            return -1;
        }
        Saying offer = v.tale.get(b.offer());
        boolean passed = v.cell(12) == 0;
        for (int k = 0; k < v.tale.size(); k++) {
            Saying s = v.tale.get(k);
            if (v.cell(12) != 0 && s.kind().equals("send") && s.said() == b.offer()) {
                int gone = v.hours[k][v.cell(12) - 1];
                passed = passed || (gone != -1 && gone <= hour);
            }
        }
        return passed && hour >= b.hour() ? offer.to() : offer.hand();
    }

    int judge(int number, int law, int combo, int yes, int hour) {
        View v = view(number, law, combo);
        if (v == null) {
            return -2;
        }
        Bargain b = v.bargain();
        if (b == null) {
            return yes == -2 ? -1 : 0;
        }
        if (yes == -2) {
            return 0;
        }
        return b.yes() != yes ? 1 : b.hour() != hour ? 2 : -1;
    }

    private boolean isApart(int number, int one, int other, int combo) {
        View v = view(number, one, combo);
        View w = view(number, other, combo);
        Bargain b = v.bargain();
        Bargain c = w.bargain();
        if (b == null || c == null) {
            return b != c;
        }
        boolean apart = b.hour() != c.hour();
        for (int i = 0; i < 5; i++) {
            apart = apart || v.word(b, i) != w.word(c, i);
        }
        return apart;
    }

    int apart(int number, int one, int other, int what) {
        if (!isLooked(number, one) || !hasLaw(other) || what < 0 || what > 1) {
            return -2;
        }
        int many = 0;
        int first = -1;
        for (int c = 0; c < combos(state.cases().get(number)); c++) {
            if (isApart(number, one, other, c)) {
                many++;
                first = first == -1 ? c : first;
            }
        }
        return what == 0 ? many : first;
    }

    int part(int one, int other) {
        if (!hasLaw(one) || !hasLaw(other)) {
            return -2;
        }
        for (int size = 1; size <= 12; size++) {
            for (int i = 0; i < state.cases().size(); i++) {
                if (state.cases().get(i).size() == size && apart(i, one, other, 0) > 0) {
                    return i;
                }
            }
        }
        return -1;
    }

    int write(int number) {
        if (!isLooked(number, 0)) {
            return -2;
        }
        List<Saying> tale = state.cases().get(number);
        int best = -1;
        for (int bits = 0; bits < 1 << state.clauses().size(); bits++) {
            boolean good = true;
            for (List<Rule> law : state.laws()) {
                List<Rule> all = new ArrayList<>(law);
                for (int i = 0; i < state.clauses().size(); i++) {
                    if ((bits >> i & 1) == 1) {
                        all.addAll(state.clauses().get(i));
                    }
                }
                good = good && countBargains(tale, all) == combos(tale);
            }
            if (good && (best == -1 || Integer.bitCount(bits) < Integer.bitCount(best))) {
                best = bits;
            }
        }
        return best;
    }

    int does(int number, int law, int combo, int k) {
        View v = view(number, law, combo);
        if (v == null || k < 0 || k >= v.tale.size()) {
            return -2;
        }
        int bits = v.isOffer(k) && v.from(k) != -1 ? 1 : 0;
        for (int offer = 0; offer < v.tale.size(); offer++) {
            if (v.isOffer(offer) && v.end(offer)[2] == k) {
                bits |= 2;
            }
        }
        Bargain b = v.bargain();
        if (b != null && b.yes() == k) {
            bits |= 4;
        }
        if (v.tale.get(k).kind().equals("back")) {
            int yes = v.tale.get(k).said();
            if (v.isYes(yes) && v.yesHour(yes) != -1 && v.backHour(k) != -1 && v.backHour(k) < v.yesHour(yes)) {
                bits |= 8;
            }
        }
        return bits;
    }

    int can(int number, int law, int combo, int hand, int hour) {
        View v = view(number, law, combo);
        if (v == null || hand < 0 || hand > 2 || hour < 0 || hour > 9998) {
            return -2;
        }
        return v.can(hand, hour);
    }

    int until(int number, int law, int combo, int hand, int what) {
        View v = view(number, law, combo);
        if (v == null || hand < 0 || hand > 2 || what < 1 || what > 2) {
            return -2;
        }
        for (int hour = 9998; hour >= 0; hour--) {
            // No SAYING has an hour between these: what holds at the one holds at the other.
            if (hour == 9997) {
                hour = 5000;
            }
            if ((v.can(hand, hour) & what) != 0) {
                return hour;
            }
        }
        return -1;
    }

    private int countChanged(int number, int law, int k, Saying changed) {
        List<Saying> tale = new ArrayList<>(state.cases().get(number));
        tale.set(k, changed);
        return combos(tale) == -1 ? -2 : countBargains(tale, state.laws().get(law));
    }

    int lost(int number, int law, int k) {
        if (!hasCase(number) || !hasLaw(law) || k < 0 || k >= state.cases().get(number).size()) {
            return -2;
        }
        Saying s = state.cases().get(number).get(k);
        if (!s.way().equals("post") && !s.way().equals("wire")) {
            return -2;
        }
        return countChanged(number, law, k, new Saying(s.kind(), s.hand(), s.to(), s.said(), s.way(), s.hold(),
                s.given(), s.words(), s.at(), s.after(), s.read(), false, true));
    }

    int wired(int number, int law, int k) {
        if (!hasCase(number) || !hasLaw(law) || k < 0 || k >= state.cases().get(number).size()) {
            return -2;
        }
        Saying s = state.cases().get(number).get(k);
        Span atOnce = new Span(0, 0, false);
        return countChanged(number, law, k, new Saying(s.kind(), s.hand(), s.to(), s.said(), "wire", s.hold(),
                s.given(), s.words(), s.at(), atOnce, atOnce, false, false));
    }

    int image() {
        if (images.size() == 4) {
            return -1;
        }
        images.add(state.copy());
        return images.size() - 1;
    }

    boolean back(int image) {
        if (image < 0 || image >= images.size()) {
            return false;
        }
        state = images.get(image).copy();
        sureOnes.clear();
        return true;
    }

    int count(int what) {
        switch (what) {
            case 0:
                return state.cases().size();
            case 1:
                return state.laws().size();
            case 2:
                return state.clauses().size();
            case 3:
                return tape.length();
            case 4:
                return state.cases().stream().mapToInt(List::size).sum();
            case 5:
                return images.size();
            default:
                return -1;
        }
    }
}
