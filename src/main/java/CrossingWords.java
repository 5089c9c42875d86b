import java.util.Arrays;

/** When was it agreed: sayings that cross between hands, judged by laws over all hours that may have been. */
public final class CrossingWords {
    public static final int NONE = -1;

    private static final int NO_SUCH = -2;
    private static final int FULL = -3;
    private static final int NO_SUCH_RUN = -3;
    private static final int TOLD_NO_BARGAIN = -2;

    /** Above every hour that a text can tell, so that "never" loses each comparison for the least hour. */
    private static final int NEVER = 9999;

    private static final int MOST_CASES = 16;
    private static final int MOST_SAYINGS = 12;
    private static final int MOST_COMBOS = 1024;
    private static final int MOST_HUNG = 12;
    private static final int MOST_LAWS = 8;
    private static final int MOST_CLAUSES = 6;
    private static final int MOST_RULES = 20;
    private static final int MOST_IMAGES = 4;
    private static final int HANDS = 3;
    private static final int WORDS = 5;

    private static final int OFFER = 0;
    private static final int ASK = 1;
    private static final int YES = 2;
    private static final int BUT = 3;
    private static final int NO = 4;
    private static final int BACK = 5;
    private static final int DEED = 6;
    private static final int SEND = 7;

    private static final int WIRE = 1;
    private static final int MOUTH = 2;

    private static final int SENT = 0;
    private static final int COME = 1;
    private static final int READ = 2;

    private static final int WHY_BACK = 1;
    private static final int WHY_NO = 2;
    private static final int WHY_HOLD = 3;
    private static final int WHY_LAPSE = 4;

    // The cells of a SAYING. Up to GIVEN, and the WORDS, they bear the numbers that saying() asks by.
    private static final int KIND = 0;
    private static final int HAND = 1;
    private static final int TO = 2;
    private static final int SAID = 3;
    private static final int WAY = 4;
    private static final int HOLD = 5;
    private static final int GIVEN = 6;
    /** The least of "at", "after", "read". */
    private static final int FIRST = 7;
    private static final int WORD = 10;
    /** By how many "at", "after", "read", "lost" may be; 0: that one isn't ASKED. */
    private static final int MAY = 15;
    private static final int SPANS = 3;
    private static final int ASKS = 4;
    /** 1: lost for sure. */
    private static final int GONE = 19;
    /** By how many the SAYING may be in all. */
    private static final int TURNS = 20;
    private static final int WIDTH = 21;

    // The cells of a LAW bear the numbers that rule() asks by; 0 to 2 are "yes" by its ways.
    private static final int OFFER_WHEN = 3;
    private static final int BACK_WHEN = 4;
    private static final int NO_WHEN = 5;
    private static final int HOLD_BINDS = 6;
    private static final int LAPSE = 7;
    private static final int SILENCE = 8;
    private static final int BUT_SMALL = 9;
    private static final int FORM = 10;
    private static final int DEED_YES = 11;
    private static final int RISK = 12;
    private static final int RULES = 13;
    private static final int LAW_WIDTH = 14;
    private static final int UNTOLD = -2;
    private static final int FORM_LAST = 1;
    private static final int FORM_NONE = 2;

    private static final int[] PLAIN_LAW = {1, 1, 1, 1, 1, 1, 0, -1, -1, 0, 0, 0, 0, 0};

    private static final String HAND_LIST = "a b c";
    private static final String WORD_LIST = "price much day port court";
    private static final String WHEN_LIST = "sent come read";
    private static final int PORT = 3;

    private final Tape tape = new Tape();
    private final Shelf shelf = new Shelf();
    private final Shelf[] images = new Shelf[MOST_IMAGES];
    private final CaseReader caseReader = new CaseReader(tape);
    private final LawReader lawReader = new LawReader(tape);
    private final Court court = new Court(shelf);
    private final Case nothingTold = new Case(new int[0], 0);
    private int imageCount = 0;
    private int faultPlace = NONE;

    public CrossingWords() {
    }

    public int feed(int a, int b, int c, int d, int e) {
        if (tape.length + Tape.PIECE > Tape.ROOM) {
            return NONE;
        }
        tape.put(a);
        tape.put(b);
        tape.put(c);
        tape.put(d);
        tape.put(e);
        return tape.length;
    }

    public int tell(int n) {
        if (!tape.holds(n)) {
            return NO_SUCH;
        }
        if (shelf.caseCount >= MOST_CASES) {
            return FULL;
        }
        tape.begin(n);
        Case told = caseReader.readBehind(nothingTold, shelf.caseCount);
        endReading();
        return told == null ? NONE : shelf.addCase(told);
    }

    public int more(int number, int n) {
        Case old = shelf.caseAt(number);
        if (old == null || !tape.holds(n)) {
            return NO_SUCH;
        }
        tape.begin(n);
        Case told = caseReader.readBehind(old, number);
        endReading();
        if (told == null) {
            return NONE;
        }
        shelf.cases[number] = told;
        court.forget();
        return told.size;
    }

    public int law(int n) {
        if (!tape.holds(n)) {
            return NO_SUCH;
        }
        if (shelf.lawCount >= MOST_LAWS) {
            return FULL;
        }
        tape.begin(n);
        boolean good = lawReader.readAll(0);
        endReading();
        return good ? shelf.addLaw(lawReader.told) : NONE;
    }

    public int clause(int n) {
        if (!tape.holds(n)) {
            return NO_SUCH;
        }
        if (shelf.clauseCount >= MOST_CLAUSES) {
            return FULL;
        }
        tape.begin(n);
        boolean good = lawReader.readAll(1);
        endReading();
        return good ? shelf.addClause(lawReader.told) : NONE;
    }

    private void endReading() {
        faultPlace = tape.failedAt;
        tape.length = 0;
    }

    public int fault() {
        return faultPlace;
    }

    public int saying(int number, int k, int what) {
        Case tale = shelf.caseAt(number);
        boolean known = (what >= KIND && what <= GIVEN) || isWordAsked(what);
        if (tale == null || !tale.has(k) || !known) {
            return NO_SUCH;
        }
        return tale.cell(k, what);
    }

    private static boolean isWordAsked(int what) {
        return what >= WORD && what < WORD + WORDS;
    }

    public int asked(int number, int what) {
        Case tale = shelf.caseAt(number);
        if (tale == null) {
            return NO_SUCH;
        }
        switch (what) {
            case 0:
                return tale.size;
            case 1:
                return tale.askedOnes;
            case 2:
                return tale.combos;
            default:
                return NO_SUCH;
        }
    }

    public int hour(int number, int combo, int k, int what) {
        Case tale = shelf.caseAt(number);
        if (tale == null || !tale.has(k) || combo < 0 || combo >= tale.combos || what < SENT || what > READ) {
            return NO_SUCH;
        }
        return court.hourIn(tale, combo, k, what);
    }

    public int rule(int law, int what) {
        if (!shelf.hasLaw(law) || what < 0 || what >= LAW_WIDTH) {
            return NO_SUCH;
        }
        return shelf.laws[law][what];
    }

    public int run(int number, int law, int combo, int what) {
        boolean known = (what >= 0 && what <= 2) || isWordAsked(what);
        if (!known || !court.decides(number, law, combo)) {
            return NO_SUCH_RUN;
        }
        Bench bench = court.bench;
        if (!bench.hasBargain()) {
            return TOLD_NO_BARGAIN;
        }
        switch (what) {
            case 0:
                return bench.madeBy;
            case 1:
                return bench.madeOf;
            case 2:
                return bench.madeAt;
            default:
                return bench.bargainWord(what - WORD);
        }
    }

    public int open(int number, int law, int combo, int k, int what) {
        if (what < 0 || what > 2 || !court.decides(number, law, combo) || !court.bench.isOffer(k)) {
            return NO_SUCH;
        }
        switch (what) {
            case 0:
                return court.bench.from[k];
            case 1:
                return court.bench.end[k];
            default:
                return court.bench.why[k];
        }
    }

    public int binds(int number, int law, int combo) {
        if (!court.decides(number, law, combo)) {
            return NO_SUCH;
        }
        return court.bench.boundHands();
    }

    public int sure(int number, int law, int what) {
        if (what < 0 || what >= Court.TALLIES || !court.seat(number, law)) {
            return NO_SUCH;
        }
        court.countAll();
        return court.tally[what];
    }

    public int hang(int number, int law) {
        if (!court.seat(number, law) || court.bench.tale.askedOnes > MOST_HUNG) {
            return NO_SUCH;
        }
        return court.hangsOn();
    }

    public int bears(int number, int law, int combo, int hour) {
        if (hour < 0 || !court.decides(number, law, combo)) {
            return NO_SUCH;
        }
        return court.bench.bearer(hour);
    }

    public int judge(int number, int law, int combo, int yes, int hour) {
        if (!court.decides(number, law, combo)) {
            return NO_SUCH;
        }
        Bench bench = court.bench;
        boolean toldOne = yes != TOLD_NO_BARGAIN;
        if (toldOne != bench.hasBargain()) {
            return 0;
        }
        if (!toldOne) {
            return NONE;
        }
        if (yes != bench.madeBy) {
            return 1;
        }
        return hour == bench.madeAt ? NONE : 2;
    }

    public int apart(int number, int one, int other, int what) {
        if (what < 0 || what > 1 || !court.seatBoth(number, one, other)) {
            return NO_SUCH;
        }
        return what == 0 ? court.countApart() : court.firstApart();
    }

    public int part(int one, int other) {
        if (!shelf.hasLaw(one) || !shelf.hasLaw(other)) {
            return NO_SUCH;
        }
        int shortest = NONE;
        int fewest = MOST_SAYINGS + 1;
        for (int number = 0; number < shelf.caseCount; number++) {
            Case tale = shelf.caseAt(number);
            boolean shorter = tale != null && tale.size < fewest;
            if (shorter && court.seatBoth(number, one, other) && court.firstApart() != NONE) {
                shortest = number;
                fewest = tale.size;
            }
        }
        return shortest;
    }

    public int write(int number) {
        Case tale = shelf.caseAt(number);
        if (tale == null || tale.combos == NONE || shelf.lawCount == 0) {
            return NO_SUCH;
        }
        int subsets = 1 << shelf.clauseCount;
        for (int many = 0; many <= shelf.clauseCount; many++) {
            for (int bits = 0; bits < subsets; bits++) {
                if (Integer.bitCount(bits) == many && court.leavesNothingToAsk(tale, number, bits)) {
                    return bits;
                }
            }
        }
        return NONE;
    }

    public int does(int number, int law, int combo, int k) {
        if (!court.decides(number, law, combo) || !court.bench.tale.has(k)) {
            return NO_SUCH;
        }
        return court.bench.doings(k);
    }

    public int can(int number, int law, int combo, int hand, int hour) {
        if (!isHand(hand) || hour < 0 || hour >= NEVER || !court.decides(number, law, combo)) {
            return NO_SUCH;
        }
        int bits = court.bench.mayAt(hand, 1, hour) ? 1 : 0;
        return court.bench.mayAt(hand, 2, hour) ? bits | 2 : bits;
    }

    public int until(int number, int law, int combo, int hand, int what) {
        if (!isHand(hand) || what < 1 || what > 2 || !court.decides(number, law, combo)) {
            return NO_SUCH;
        }
        return court.bench.mayUntil(hand, what);
    }

    private static boolean isHand(int hand) {
        return hand >= 0 && hand < HANDS;
    }

    public int lost(int number, int law, int k) {
        Case tale = shelf.caseAt(number);
        if (tale == null || !tale.has(k) || tale.cell(k, WAY) > WIRE) {
            return NO_SUCH;
        }
        return countChanged(tale.withLost(k), number, law);
    }

    public int wired(int number, int law, int k) {
        Case tale = shelf.caseAt(number);
        if (tale == null || !tale.has(k)) {
            return NO_SUCH;
        }
        return countChanged(tale.withWire(k), number, law);
    }

    private int countChanged(Case changed, int number, int law) {
        if (!court.seatCase(court.bench, changed, number, law)) {
            return NO_SUCH;
        }
        court.countAll();
        return court.tally[0];
    }

    public int image() {
        if (imageCount >= MOST_IMAGES) {
            return NONE;
        }
        Shelf copy = new Shelf();
        copy.becomeLike(shelf);
        images[imageCount] = copy;
        imageCount++;
        return imageCount - 1;
    }

    public boolean back(int image) {
        if (image < 0 || image >= imageCount || images[image] == null) {
            return false;
        }
        shelf.becomeLike(images[image]);
        court.forget();
        return true;
    }

    public int count(int what) {
        switch (what) {
            case 0:
                return shelf.caseCount;
            case 1:
                return shelf.lawCount;
            case 2:
                return shelf.clauseCount;
            case 3:
                return tape.length;
            case 4:
                return shelf.allSayings();
            case 5:
                return imageCount;
            default:
                return NONE;
        }
    }

    /** The bytes that came, and the reading of a text of them token by token up to its first FAULT. */
    private static final class Tape {
        private static final int ROOM = 900;
        private static final int PIECE = 20;
        private static final int MOST_DIGITS = 4;
        private static final int END = 0;
        private static final int LETTERS = 1;
        private static final int DIGITS = 2;
        private static final int SEMICOLON = 3;
        private static final int BLANK = 4;
        private static final int OTHER = 5;

        private final byte[] bytes = new byte[ROOM];
        private int length = 0;
        private int limit = 0;
        private int place = 0;
        private int behind = 0;
        private int sort = END;
        private int failedAt = NONE;

        void put(int four) {
            for (int shift = 24; shift >= 0 && length < ROOM; shift -= 8) {
                bytes[length] = (byte) (four >> shift);
                length++;
            }
        }

        boolean holds(int n) {
            return n >= 0 && n <= length;
        }

        void begin(int n) {
            limit = holds(n) ? n : 0;
            behind = 0;
            failedAt = NONE;
            advance();
        }

        void advance() {
            int at = behind;
            while (at < limit && sortOf(bytes[at]) == BLANK) {
                at++;
            }
            place = at;
            sort = at < limit ? sortOf(bytes[at]) : END;
            if (at < limit) {
                at++;
            }
            if (sort == LETTERS || sort == DIGITS) {
                while (at < limit && sortOf(bytes[at]) == sort) {
                    at++;
                }
            }
            behind = at;
        }

        private static int sortOf(int sign) {
            if (sign >= 'a' && sign <= 'z') {
                return LETTERS;
            }
            if (sign >= '0' && sign <= '9') {
                return DIGITS;
            }
            if (sign == ';') {
                return SEMICOLON;
            }
            return sign == ' ' || sign == '\n' ? BLANK : OTHER;
        }

        boolean goesOn() {
            return failedAt == NONE && sort != END;
        }

        /** Only the first place counts: whatever is read behind it is read in vain. */
        void fail() {
            if (failedAt == NONE) {
                failedAt = place;
            }
        }

        /** Which word of a list with blanks between them the token is. */
        int pick(String list) {
            if (failedAt != NONE || sort != LETTERS) {
                return NONE;
            }
            int index = 0;
            int at = place;
            boolean alike = true;
            for (int i = 0; i <= list.length(); i++) {
                int sign = i < list.length() ? list.charAt(i) : ' ';
                if (sign != ' ') {
                    alike = alike && at < behind && bytes[at] == sign;
                    at++;
                } else if (alike && at == behind) {
                    return index;
                } else {
                    index++;
                    at = place;
                    alike = true;
                }
            }
            return NONE;
        }

        int choose(String list) {
            int index = pick(list);
            if (index == NONE) {
                fail();
            } else {
                advance();
            }
            return index;
        }

        boolean take(String word) {
            if (pick(word) == NONE) {
                return false;
            }
            advance();
            return true;
        }

        void need(String word) {
            if (pick(word) == NONE) {
                fail();
            } else {
                advance();
            }
        }

        void needSemicolon() {
            if (failedAt == NONE && sort == SEMICOLON) {
                advance();
            } else {
                fail();
            }
        }

        /** The number that the token is; NONE: it's none of one to four digits. */
        int value() {
            if (failedAt != NONE || sort != DIGITS || behind - place > MOST_DIGITS) {
                return NONE;
            }
            int number = 0;
            for (int i = place; i < behind; i++) {
                number = number * 10 + bytes[i] - '0';
            }
            return number;
        }

        int number(int least, int most) {
            int number = value();
            if (number == NONE || number < least || number > most) {
                fail();
                return NONE;
            }
            advance();
            return number;
        }
    }

    /** A CASE as told; it never changes, so that IMAGES can share it. */
    private static final class Case {
        private final int[] cells;
        private final int size;
        private final int askedOnes;
        private final int combos;

        Case(int[] rows, int size) {
            this.cells = Arrays.copyOf(rows, size * WIDTH);
            this.size = size;
            int asks = 0;
            int all = 1;
            for (int row = 0; row < cells.length; row += WIDTH) {
                int turns = 1;
                for (int i = 0; i < ASKS; i++) {
                    int may = cells[row + MAY + i];
                    asks += may > 0 ? 1 : 0;
                    turns *= Math.max(may, 1);
                }
                cells[row + TURNS] = turns;
                all = Math.min(all * turns, MOST_COMBOS + 1);
            }
            this.askedOnes = asks;
            this.combos = all <= MOST_COMBOS ? all : NONE;
        }

        boolean has(int k) {
            return k >= 0 && k < size;
        }

        int cell(int k, int column) {
            if (!has(k) || column < 0 || column >= WIDTH) {
                return NONE;
            }
            return cells[k * WIDTH + column];
        }

        /** Whether a SAYING tells no WORD but port and court. */
        boolean tellsLittle(int k) {
            for (int w = 0; w < PORT; w++) {
                if (cell(k, WORD + w) != NONE) {
                    return false;
                }
            }
            return true;
        }

        /** A WORD of an OFFER, looked up through those that it answers. */
        int wordOf(int offer, int w) {
            int at = offer;
            for (int step = 0; step < MOST_SAYINGS && has(at); step++) {
                int word = cell(at, WORD + w);
                if (word != NONE) {
                    return word;
                }
                at = cell(at, KIND) == BUT ? cell(at, SAID) : NONE;
            }
            return NONE;
        }

        Case withLost(int k) {
            int[] changed = cells.clone();
            if (has(k)) {
                changed[k * WIDTH + MAY + SPANS] = 0;
                changed[k * WIDTH + GONE] = 1;
            }
            return new Case(changed, size);
        }

        Case withWire(int k) {
            int[] changed = cells.clone();
            if (has(k)) {
                int row = k * WIDTH;
                changed[row + WAY] = WIRE;
                changed[row + FIRST + 1] = 0;
                changed[row + FIRST + 2] = 0;
                Arrays.fill(changed, row + MAY + 1, row + MAY + ASKS, 0);
            }
            return new Case(changed, size);
        }
    }

    /** Reads SAYINGS from the tape behind those of a CASE. */
    private static final class CaseReader {
        private static final int LAST_HOUR = 1999;
        private static final int LAST_NUMBER = 999;
        private static final int WIDEST_SPAN = 15;

        private final Tape tape;
        private final int[] cells = new int[MOST_SAYINGS * WIDTH];
        private int casesAhead = 0;

        CaseReader(Tape tape) {
            this.tape = tape;
        }

        /** The CASE with what the text tells behind; null: there was a FAULT. */
        Case readBehind(Case old, int ahead) {
            casesAhead = ahead;
            int had = Math.min(old.size, MOST_SAYINGS);
            int size = had;
            System.arraycopy(old.cells, 0, cells, 0, had * WIDTH);
            for (int turn = had; turn <= MOST_SAYINGS && tape.goesOn(); turn++) {
                if (turn == MOST_SAYINGS) {
                    tape.fail();
                } else {
                    readSaying(turn);
                    size = turn + 1;
                }
            }
            if (size == had) {
                tape.fail();
            }
            return tape.failedAt == NONE ? new Case(cells, size) : null;
        }

        private void readSaying(int k) {
            int row = k * WIDTH;
            Arrays.fill(cells, row, row + WIDTH, NONE);
            Arrays.fill(cells, row + FIRST, row + FIRST + SPANS, 0);
            Arrays.fill(cells, row + MAY, row + WIDTH, 0);
            int verb = tape.choose("offer ask yes no back deed send");
            // A "yes" with "but" is a kind of its own, but begins with no word of its own.
            int kind = verb <= YES ? verb : verb + 1;
            cells[row + KIND] = kind;
            cells[row + HAND] = tape.choose(HAND_LIST);
            if (kind == OFFER || kind == ASK) {
                readOther(row);
            } else {
                readSaid(k, kind);
            }
            if (kind == OFFER) {
                readTerms(row);
            }
            if (kind == YES && tape.take("but")) {
                readBut(row);
            }
            readTimes(row);
            tape.needSemicolon();
        }

        private void readOther(int row) {
            if (tape.pick(HAND_LIST) == cells[row + HAND]) {
                tape.fail();
            }
            cells[row + TO] = tape.choose(HAND_LIST);
        }

        private void readSaid(int k, int kind) {
            int said = tape.value();
            if (said < 0 || said >= k || !fits(kind, cells[k * WIDTH + HAND], said * WIDTH)) {
                tape.fail();
                return;
            }
            cells[k * WIDTH + SAID] = said;
            tape.advance();
        }

        private boolean fits(int kind, int hand, int saidRow) {
            int saidKind = cells[saidRow + KIND];
            boolean offer = saidKind == OFFER || saidKind == BUT;
            if (kind == BACK) {
                return (offer || saidKind == YES) && cells[saidRow + HAND] == hand;
            }
            return offer && cells[saidRow + (kind == SEND ? HAND : TO)] == hand;
        }

        private void readTerms(int row) {
            readWords(row);
            if (tape.take("hold")) {
                cells[row + HOLD] = tape.number(0, LAST_HOUR);
            }
            if (tape.take("given")) {
                cells[row + GIVEN] = tape.number(0, casesAhead - 1);
            }
        }

        private void readBut(int row) {
            cells[row + KIND] = BUT;
            int said = cells[row + SAID];
            if (said >= 0 && said < MOST_SAYINGS) {
                cells[row + TO] = cells[said * WIDTH + HAND];
            }
            if (tape.pick(WORD_LIST) == NONE) {
                tape.fail();
            }
            readWords(row);
        }

        private void readWords(int row) {
            // Each turn takes bytes from the tape, so there can't be more turns than it has room.
            for (int turn = 0; turn < Tape.ROOM; turn++) {
                int w = tape.pick(WORD_LIST);
                if (w == NONE) {
                    return;
                }
                tape.advance();
                cells[row + WORD + w] = tape.number(0, LAST_NUMBER);
            }
        }

        private void readTimes(int row) {
            int way = tape.choose("post wire mouth deed");
            cells[row + WAY] = way;
            tape.need("at");
            readSpan(row, 0, LAST_HOUR);
            if (way > WIRE) {
                return;
            }
            tape.need("after");
            readSpan(row, 1, LAST_NUMBER);
            if (tape.take("read")) {
                readSpan(row, 2, LAST_NUMBER);
            }
            if (tape.take("lost")) {
                cells[row + MAY + SPANS] = 2;
            }
        }

        private void readSpan(int row, int i, int most) {
            int first = tape.number(0, most);
            cells[row + FIRST + i] = first;
            if (tape.take("to")) {
                // "5 to 5" isn't told as one number either: it's ASKED, though there is but one answer.
                int last = tape.number(first, Math.min(most, first + WIDEST_SPAN));
                cells[row + MAY + i] = last - first + 1;
            }
        }
    }

    /** Reads RULES from the tape: what each of a LAW's cells is told to be, or that it's UNTOLD. */
    private static final class LawReader {
        private static final int LAST_NUMBER = 999;
        private static final int ALL_WAYS = 3;

        private final Tape tape;
        private final int[] told = new int[LAW_WIDTH];

        LawReader(Tape tape) {
            this.tape = tape;
        }

        boolean readAll(int fewest) {
            Arrays.fill(told, UNTOLD);
            int rules = 0;
            for (int turn = 0; turn <= MOST_RULES && tape.goesOn(); turn++) {
                if (turn == MOST_RULES) {
                    tape.fail();
                } else {
                    readRule();
                    rules++;
                }
            }
            if (rules < fewest) {
                tape.fail();
            }
            told[RULES] = rules;
            return tape.failedAt == NONE;
        }

        private void readRule() {
            switch (tape.choose("yes offer back no hold lapse silence but form deed risk")) {
                case 0:
                    readYes();
                    break;
                case 1:
                    told[OFFER_WHEN] = tape.choose(WHEN_LIST);
                    break;
                case 2:
                    told[BACK_WHEN] = tape.choose(WHEN_LIST);
                    break;
                case 3:
                    told[NO_WHEN] = tape.choose(WHEN_LIST);
                    break;
                case 4:
                    told[HOLD_BINDS] = tape.choose("free binds");
                    break;
                case 5:
                    told[LAPSE] = tape.number(0, LAST_NUMBER);
                    break;
                case 6:
                    told[SILENCE] = tape.number(0, LAST_NUMBER);
                    break;
                case 7:
                    told[BUT_SMALL] = tape.choose("no small");
                    break;
                case 8:
                    told[FORM] = tape.choose("first last none");
                    break;
                case 9:
                    told[DEED_YES] = tape.choose("none yes");
                    break;
                case 10:
                    told[RISK] = tape.choose("bargain sent come");
                    break;
                default:
                    break;
            }
            tape.needSemicolon();
        }

        private void readYes() {
            int way = tape.choose("post wire mouth all");
            int when = tape.choose(WHEN_LIST);
            for (int w = 0; w <= MOUTH; w++) {
                if (way == w || way == ALL_WAYS) {
                    told[w] = when;
                }
            }
        }
    }

    /** The CASES, LAWS and CLAUSES as they are, or as an IMAGE keeps them. */
    private static final class Shelf {
        private final Case[] cases = new Case[MOST_CASES];
        private final int[][] laws = new int[MOST_LAWS][LAW_WIDTH];
        private final int[][] clauses = new int[MOST_CLAUSES][LAW_WIDTH];
        private int caseCount = 0;
        private int lawCount = 0;
        private int clauseCount = 0;

        Case caseAt(int number) {
            return number >= 0 && number < caseCount ? cases[number] : null;
        }

        boolean hasLaw(int law) {
            return law >= 0 && law < lawCount;
        }

        int addCase(Case told) {
            if (caseCount >= MOST_CASES) {
                return NONE;
            }
            cases[caseCount] = told;
            caseCount++;
            return caseCount - 1;
        }

        int addLaw(int[] told) {
            if (lawCount >= MOST_LAWS) {
                return NONE;
            }
            System.arraycopy(PLAIN_LAW, 0, laws[lawCount], 0, LAW_WIDTH);
            layOver(laws[lawCount], told);
            lawCount++;
            return lawCount - 1;
        }

        int addClause(int[] told) {
            if (clauseCount >= MOST_CLAUSES) {
                return NONE;
            }
            System.arraycopy(told, 0, clauses[clauseCount], 0, LAW_WIDTH);
            clauseCount++;
            return clauseCount - 1;
        }

        static void layOver(int[] rules, int[] told) {
            for (int i = 0; i < LAW_WIDTH; i++) {
                if (told[i] != UNTOLD) {
                    rules[i] = told[i];
                }
            }
        }

        /** A LAW with the CLAUSES of some bits told behind it. */
        void mixLaw(int[] rules, int law, int bits) {
            if (!hasLaw(law)) {
                return;
            }
            System.arraycopy(laws[law], 0, rules, 0, LAW_WIDTH);
            for (int i = 0; i < clauseCount; i++) {
                if ((bits >> i & 1) == 1) {
                    layOver(rules, clauses[i]);
                }
            }
        }

        int allSayings() {
            int sum = 0;
            for (int i = 0; i < caseCount; i++) {
                Case tale = caseAt(i);
                sum += tale == null ? 0 : tale.size;
            }
            return sum;
        }

        void becomeLike(Shelf that) {
            caseCount = that.caseCount;
            lawCount = that.lawCount;
            clauseCount = that.clauseCount;
            for (int i = 0; i < MOST_CASES; i++) {
                cases[i] = that.cases[i];
            }
            for (int i = 0; i < MOST_LAWS; i++) {
                System.arraycopy(that.laws[i], 0, laws[i], 0, LAW_WIDTH);
            }
            for (int i = 0; i < MOST_CLAUSES; i++) {
                System.arraycopy(that.clauses[i], 0, clauses[i], 0, LAW_WIDTH);
            }
        }
    }

    /** One CASE by one LAW: decides COMBO after COMBO in the same rows. */
    private static final class Bench {
        private final int[] hours = new int[SPANS * MOST_SAYINGS];
        private final int[] turnHeard = new int[MOST_SAYINGS];
        private final boolean[] offers = new boolean[MOST_SAYINGS];
        private final boolean[] yeses = new boolean[MOST_SAYINGS];
        private final boolean[] inVain = new boolean[MOST_SAYINGS];
        private final int[] from = new int[MOST_SAYINGS];
        private final int[] end = new int[MOST_SAYINGS];
        private final int[] why = new int[MOST_SAYINGS];
        private final int[] endedBy = new int[MOST_SAYINGS];
        private final int[] takenBackAt = new int[MOST_SAYINGS];
        private final int[] answeredAt = new int[MOST_SAYINGS];
        private int[] rules = new int[LAW_WIDTH];
        private Case tale;
        private int madeBy = NONE;
        private int madeOf = NONE;
        private int madeAt = NEVER;

        Bench(Case nothing) {
            tale = nothing;
        }

        /** What of a CASE is the same in all COMBOS; sureCases says for which CASES a "given" is met. */
        void take(Case next, int[] law, int[] sureCases, int slot) {
            tale = next;
            rules = law;
            Arrays.fill(turnHeard, NONE);
            for (int k = 0; k < tale.size; k++) {
                int kind = tale.cell(k, KIND);
                boolean small = kind == BUT && rules[BUT_SMALL] == 1 && tale.tellsLittle(k);
                offers[k] = kind == OFFER || (kind == BUT && !small);
                yeses[k] = kind == YES || small || (kind == DEED && rules[DEED_YES] == 1);
                int given = tale.cell(k, GIVEN);
                inVain[k] = given >= 0 && given < MOST_CASES && sureCases[slot + given] != Court.SURE;
            }
        }

        boolean decide(int combo) {
            hear(combo);
            openOffers();
            takeBack();
            hearAnswers();
            madeBy = NONE;
            madeOf = NONE;
            madeAt = NEVER;
            tryYeses();
            // Behind all YESES: at one hour a YES goes ahead of silence.
            if (rules[SILENCE] != NONE) {
                trySilence();
            }
            return madeAt != NEVER;
        }

        boolean hasBargain() {
            return madeAt != NEVER;
        }

        /** From one COMBO to the next most SAYINGS keep their hours: only those that don't are set anew. */
        void hear(int combo) {
            int rest = combo;
            for (int k = 0; k < tale.size; k++) {
                int turns = Math.max(tale.cells[k * WIDTH + TURNS], 1);
                int own = rest % turns;
                rest /= turns;
                if (own != turnHeard[k]) {
                    turnHeard[k] = own;
                    setHours(k, own);
                }
            }
        }

        private void setHours(int k, int turn) {
            int row = k * WIDTH;
            int rest = turn;
            int now = 0;
            for (int i = 0; i < SPANS; i++) {
                int may = tale.cells[row + MAY + i];
                now += tale.cells[row + FIRST + i];
                if (may > 0) {
                    now += rest % may;
                    rest /= may;
                }
                hours[i * MOST_SAYINGS + k] = now;
            }
            // All that is left of the turn is "lost".
            if (tale.cells[row + GONE] == 1 || rest == 1) {
                hours[COME * MOST_SAYINGS + k] = NONE;
                hours[READ * MOST_SAYINGS + k] = NONE;
            }
        }

        int hourOf(int k, int when) {
            if (k < 0 || k >= MOST_SAYINGS || when < SENT || when > READ) {
                return NONE;
            }
            return hours[when * MOST_SAYINGS + k];
        }

        private void openOffers() {
            for (int k = 0; k < tale.size; k++) {
                takenBackAt[k] = NEVER;
                answeredAt[k] = NEVER;
                end[k] = NEVER;
                why[k] = 0;
                endedBy[k] = NONE;
                from[k] = offers[k] && !inVain[k] ? hourOf(k, rules[OFFER_WHEN]) : NONE;
                int hold = tale.cells[k * WIDTH + HOLD];
                int come = hourOf(k, COME);
                if (hold != NONE) {
                    endAt(k, hold + 1, WHY_HOLD, NONE);
                } else if (rules[LAPSE] != NONE && come != NONE) {
                    endAt(k, come + rules[LAPSE] + 1, WHY_LAPSE, NONE);
                }
            }
        }

        private void endAt(int k, int hour, int reason, int by) {
            if (offers[k] && hour != NONE && (hour < end[k] || (hour == end[k] && reason < why[k]))) {
                end[k] = hour;
                why[k] = reason;
                endedBy[k] = by;
            }
        }

        private void takeBack() {
            for (int k = 0; k < tale.size; k++) {
                int said = tale.cells[k * WIDTH + SAID];
                boolean isBack = tale.cells[k * WIDTH + KIND] == BACK && said >= 0 && said < k;
                int hour = isBack ? hourOf(k, rules[BACK_WHEN]) : NONE;
                if (hour != NONE) {
                    takenBackAt[said] = Math.min(takenBackAt[said], hour);
                }
                if (hour != NONE && hour >= freeFrom(said)) {
                    endAt(said, hour, WHY_BACK, k);
                }
            }
        }

        /** From when on a "back" of a SAYING does something. */
        private int freeFrom(int k) {
            int hold = tale.cells[k * WIDTH + HOLD];
            return hold != NONE && rules[HOLD_BINDS] == 1 ? hold + 1 : 0;
        }

        private void hearAnswers() {
            for (int k = 0; k < tale.size; k++) {
                int kind = tale.cells[k * WIDTH + KIND];
                int said = tale.cells[k * WIDTH + SAID];
                if (said >= 0 && said < k && kind != BACK && kind != SEND) {
                    answeredAt[said] = Math.min(answeredAt[said], hourOf(k, SENT));
                    if (kind == NO || offers[k]) {
                        endAt(said, hourOf(k, rules[NO_WHEN]), WHY_NO, k);
                    }
                }
            }
        }

        private void tryYeses() {
            for (int k = 0; k < tale.size; k++) {
                int offer = tale.cells[k * WIDTH + SAID];
                if (yeses[k] && offer >= 0 && offer < k && offers[offer]) {
                    int hour = hourOf(k, yesWhen(k));
                    int come = hourOf(offer, COME);
                    boolean hadCome = come != NONE && come <= hourOf(k, SENT);
                    if (hour < madeAt && hadCome && takenBackAt[k] >= hour && isOpenAt(offer, hour)) {
                        madeBy = k;
                        madeOf = offer;
                        madeAt = hour;
                    }
                }
            }
        }

        /** By which WHEN a YES has its hour. */
        private int yesWhen(int k) {
            if (tale.cells[k * WIDTH + KIND] == DEED) {
                return SENT;
            }
            int way = tale.cells[k * WIDTH + WAY];
            return way < 0 || way > MOUTH ? rules[MOUTH] : rules[way];
        }

        private void trySilence() {
            for (int k = 0; k < tale.size; k++) {
                int read = hourOf(k, READ);
                int hour = read + rules[SILENCE];
                if (offers[k] && read != NONE && hour < madeAt && answeredAt[k] > hour && isOpenAt(k, hour)) {
                    madeBy = NONE;
                    madeOf = k;
                    madeAt = hour;
                }
            }
        }

        boolean isOffer(int k) {
            return tale.has(k) && offers[k];
        }

        private boolean isOpenAt(int offer, int hour) {
            return hour != NONE && from[offer] != NONE && hour >= from[offer] && hour < end[offer];
        }

        int bargainWord(int w) {
            boolean small = tale.cell(madeBy, KIND) == BUT;
            int own = small ? tale.cell(madeBy, WORD + w) : NONE;
            if (own != NONE && rules[FORM] == FORM_LAST) {
                return own;
            }
            return own != NONE && rules[FORM] == FORM_NONE ? NONE : tale.wordOf(madeOf, w);
        }

        int boundHands() {
            int hand = tale.cell(madeOf, HAND);
            int to = tale.cell(madeOf, TO);
            return hand < 0 || to < 0 ? 0 : 1 << hand | 1 << to;
        }

        int bearer(int hour) {
            if (!hasBargain()) {
                return NONE;
            }
            int passes = riskPasses();
            boolean passed = passes != NEVER && hour >= Math.max(passes, madeAt);
            return tale.cell(madeOf, passed ? TO : HAND);
        }

        private int riskPasses() {
            if (rules[RISK] == 0) {
                return madeAt;
            }
            int first = NEVER;
            for (int k = 0; k < tale.size; k++) {
                if (tale.cell(k, KIND) == SEND && tale.cell(k, SAID) == madeOf) {
                    int hour = hourOf(k, rules[RISK] - 1);
                    first = hour == NONE ? first : Math.min(first, hour);
                }
            }
            return first;
        }

        int doings(int k) {
            if (!tale.has(k)) {
                return 0;
            }
            int said = tale.cell(k, SAID);
            int bits = from[k] != NONE ? 1 : 0;
            if (tale.has(said) && endedBy[said] == k) {
                bits |= 2;
            }
            if (hasBargain() && madeBy == k) {
                bits |= 4;
            }
            return tale.cell(k, KIND) == BACK && forestalls(k, said) ? bits | 8 : bits;
        }

        private boolean forestalls(int back, int yes) {
            if (!tale.has(yes) || !yeses[yes]) {
                return false;
            }
            int hour = hourOf(back, rules[BACK_WHEN]);
            int yesHour = hourOf(yes, yesWhen(yes));
            return hour != NONE && yesHour != NONE && hour < yesHour;
        }

        boolean mayAt(int hand, int what, int hour) {
            for (int k = 0; k < tale.size; k++) {
                if (hour >= mayFrom(k, hand, what) && hour <= mayTo(k)) {
                    return true;
                }
            }
            return false;
        }

        int mayUntil(int hand, int what) {
            int last = NONE;
            for (int k = 0; k < tale.size; k++) {
                if (mayFrom(k, hand, what) <= mayTo(k)) {
                    last = Math.max(last, mayTo(k));
                }
            }
            return last;
        }

        /** From when on an OFFER lets a HAND take it back (what 1) or say yes to it (what 2). */
        private int mayFrom(int k, int hand, int what) {
            if (!isOffer(k) || from[k] == NONE || tale.cell(k, what == 1 ? HAND : TO) != hand) {
                return NEVER;
            }
            if (what == 1) {
                return Math.max(from[k], freeFrom(k));
            }
            int come = hourOf(k, COME);
            return come == NONE ? NEVER : Math.max(from[k], come);
        }

        private int mayTo(int k) {
            return Math.min(end[k], madeAt) - 1;
        }
    }

    /** The CASES by the LAWS over all COMBOS. */
    private static final class Court {
        private static final int UNKNOWN = 0;
        private static final int UNSURE = 1;
        private static final int SURE = 2;
        private static final int TALLIES = 5;
        /** Behind the LAWS' own rows: the row of a LAW with CLAUSES told behind it. */
        private static final int MIXED_SLOT = MOST_LAWS * MOST_CASES;

        private final Shelf shelf;
        private final Bench bench;
        private final Bench otherBench;
        private final Bench givenBench;
        /** For each LAW whether each CASE has a bargain in all COMBOS, as far as it was asked. */
        private final int[] sureCases = new int[MIXED_SLOT + MOST_CASES];
        private final boolean[] needed = new boolean[MOST_CASES];
        private final boolean[] bargainIn = new boolean[MOST_COMBOS];
        private final int[] mixed = new int[LAW_WIDTH];
        private final int[] tally = new int[TALLIES];
        private int hardLaw = 0;
        private int hardCombo = 0;

        Court(Shelf shelf) {
            Case nothing = new Case(new int[0], 0);
            this.shelf = shelf;
            this.bench = new Bench(nothing);
            this.otherBench = new Bench(nothing);
            this.givenBench = new Bench(nothing);
        }

        /** CASES or LAWS that bear known numbers are no longer what they were. */
        void forget() {
            Arrays.fill(sureCases, UNKNOWN);
        }

        int hourIn(Case tale, int combo, int k, int what) {
            bench.take(tale, mixed, sureCases, MIXED_SLOT);
            bench.hear(combo);
            return bench.hourOf(k, what);
        }

        boolean decides(int number, int law, int combo) {
            Case tale = shelf.caseAt(number);
            if (tale == null || combo < 0 || combo >= tale.combos || !seatCase(bench, tale, number, law)) {
                return false;
            }
            bench.decide(combo);
            return true;
        }

        boolean seat(int number, int law) {
            return seatCase(bench, shelf.caseAt(number), number, law);
        }

        boolean seatBoth(int number, int one, int other) {
            Case tale = shelf.caseAt(number);
            return seatCase(bench, tale, number, one) && seatCase(otherBench, tale, number, other);
        }

        /** Seats a CASE, as it is or changed; false: there is none such, or it isn't LOOKED at. */
        boolean seatCase(Bench place, Case tale, int number, int law) {
            if (tale == null || tale.combos == NONE || !shelf.hasLaw(law)) {
                return false;
            }
            learnGivens(tale, number, shelf.laws[law], law * MOST_CASES);
            place.take(tale, shelf.laws[law], sureCases, law * MOST_CASES);
            return true;
        }

        /** Goes up from the least number: what a CASE is given was told ahead of it, so it's known by then. */
        private void learnGivens(Case tale, int number, int[] rules, int slot) {
            if (!markNeeded(tale, number)) {
                return;
            }
            for (int j = 0; j < number; j++) {
                Case given = shelf.caseAt(j);
                if (given != null && needed[j] && sureCases[slot + j] == UNKNOWN) {
                    givenBench.take(given, rules, sureCases, slot);
                    boolean sure = given.combos != NONE && comboWithout(givenBench, 0) == NONE;
                    sureCases[slot + j] = sure ? SURE : UNSURE;
                }
            }
        }

        private boolean markNeeded(Case tale, int number) {
            for (int j = 0; j < MOST_CASES; j++) {
                needed[j] = false;
            }
            boolean some = markGivens(tale);
            for (int j = number - 1; some && j >= 0; j--) {
                Case given = shelf.caseAt(j);
                if (given != null && needed[j]) {
                    markGivens(given);
                }
            }
            return some;
        }

        private boolean markGivens(Case tale) {
            boolean some = false;
            for (int k = 0; k < tale.size; k++) {
                int given = tale.cell(k, GIVEN);
                if (given >= 0 && given < MOST_CASES) {
                    needed[given] = true;
                    some = true;
                }
            }
            return some;
        }

        /** A COMBO without a bargain, the first one found from some COMBO on and around; NONE: all have one. */
        private static int comboWithout(Bench place, int start) {
            int combo = start;
            for (int i = 0; i < place.tale.combos; i++) {
                combo = combo >= 0 && combo < place.tale.combos ? combo : 0;
                if (!place.decide(combo)) {
                    return combo;
                }
                combo++;
            }
            return NONE;
        }

        /** Of the CASE that is seated all that sure() asks for. */
        void countAll() {
            tally[0] = 0;
            Arrays.fill(tally, 1, TALLIES, NONE);
            for (int combo = 0; combo < bench.tale.combos; combo++) {
                if (bench.decide(combo)) {
                    tallyBargain(combo);
                } else if (tally[2] == NONE) {
                    tally[2] = combo;
                }
            }
        }

        private void tallyBargain(int combo) {
            boolean first = tally[0] == 0;
            tally[0]++;
            if (first) {
                tally[1] = combo;
            }
            tally[3] = first ? bench.madeAt : Math.min(tally[3], bench.madeAt);
            tally[4] = Math.max(tally[4], bench.madeAt);
        }

        /**
         * As each ASKED one may be what it may whatever the others are, the fewest that tell are just those of
         * which each can turn the answer alone.
         */
        int hangsOn() {
            Case tale = bench.tale;
            for (int combo = 0; combo < tale.combos && combo < MOST_COMBOS; combo++) {
                bargainIn[combo] = bench.decide(combo);
            }
            int bits = 0;
            int bit = 1;
            int stride = 1;
            for (int ask = 0; ask < tale.size * ASKS; ask++) {
                int may = tale.cell(ask / ASKS, MAY + ask % ASKS);
                if (may > 0) {
                    bits |= turnsAnswer(stride, may) ? bit : 0;
                    bit <<= 1;
                    stride *= may;
                }
            }
            return bits;
        }

        private boolean turnsAnswer(int stride, int may) {
            if (stride < 1 || may < 1) {
                return false;
            }
            for (int combo = stride; combo < bench.tale.combos && combo < MOST_COMBOS; combo++) {
                if (combo / stride % may != 0 && bargainIn[combo] != bargainIn[combo - stride]) {
                    return true;
                }
            }
            return false;
        }

        int countApart() {
            int many = 0;
            for (int combo = 0; combo < bench.tale.combos; combo++) {
                many += partsIn(combo) ? 1 : 0;
            }
            return many;
        }

        int firstApart() {
            for (int combo = 0; combo < bench.tale.combos; combo++) {
                if (partsIn(combo)) {
                    return combo;
                }
            }
            return NONE;
        }

        private boolean partsIn(int combo) {
            bench.decide(combo);
            otherBench.decide(combo);
            if (bench.madeAt != otherBench.madeAt) {
                return true;
            }
            for (int w = 0; w < WORDS && bench.hasBargain(); w++) {
                if (bench.bargainWord(w) != otherBench.bargainWord(w)) {
                    return true;
                }
            }
            return false;
        }

        /**
         * Whether these CLAUSES, told behind each LAW, leave a bargain in each COMBO. It begins where the CLAUSES
         * tried ahead of these came to nothing: most come to nothing there again.
         */
        boolean leavesNothingToAsk(Case tale, int number, int bits) {
            int law = hardLaw;
            for (int i = 0; i < shelf.lawCount; i++) {
                law = shelf.hasLaw(law) ? law : 0;
                shelf.mixLaw(mixed, law, bits);
                Arrays.fill(sureCases, MIXED_SLOT, MIXED_SLOT + MOST_CASES, UNKNOWN);
                learnGivens(tale, number, mixed, MIXED_SLOT);
                bench.take(tale, mixed, sureCases, MIXED_SLOT);
                int without = comboWithout(bench, hardCombo);
                if (without != NONE) {
                    hardLaw = law;
                    hardCombo = without;
                    return false;
                }
                law++;
            }
            return true;
        }
    }
}
