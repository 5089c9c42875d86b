/** An object under test together with the telling of texts to it and the count of wrong answers. */
final class Script {
    private static int wrong = 0;

    final CrossingWords x = new CrossingWords();
    private final String name;

    Script(String name) {
        this.name = name;
    }

    void due(String what, long got, long want) {
        if (got != want) {
            wrong++;
            System.out.println(name + ": " + what + " answered " + got + ", due is " + want);
        }
    }

    /** Feeds a text with blanks behind it up to twenty bytes; how many bytes are on the tape. */
    int put(String text) {
        int there = x.count(3);
        for (int i = 0; i < text.length(); i += 20) {
            int[] five = new int[5];
            for (int j = 0; j < 20; j++) {
                int sign = i + j < text.length() ? text.charAt(i + j) : ' ';
                five[j / 4] = five[j / 4] << 8 | sign & 255;
            }
            there = x.feed(five[0], five[1], five[2], five[3], five[4]);
        }
        return there;
    }

    int tell(String text) {
        put(text);
        return x.tell(text.length());
    }

    int more(int number, String text) {
        put(text);
        return x.more(number, text.length());
    }

    int law(String text) {
        put(text);
        return x.law(text.length());
    }

    int clause(String text) {
        put(text);
        return x.clause(text.length());
    }

    void tellFault(String text, int place) {
        due("tell '" + text + "'", tell(text), -1);
        due("fault of '" + text + "'", x.fault(), place);
    }

    void lawFault(String text, int place) {
        due("law '" + text + "'", law(text), -1);
        due("fault of '" + text + "'", x.fault(), place);
    }

    // The texts of the next four bear the sign ^ ahead of the byte at whose place the FAULT is due.

    void badCase(String marked) {
        String text = marked.replace("^", "");
        tellFault(text, marked.indexOf('^'));
    }

    void badMore(int number, String marked) {
        String text = marked.replace("^", "");
        due("more '" + text + "'", more(number, text), -1);
        due("fault of '" + text + "'", x.fault(), marked.indexOf('^'));
    }

    void badLaw(String marked) {
        String text = marked.replace("^", "");
        lawFault(text, marked.indexOf('^'));
    }

    void badClause(String marked) {
        String text = marked.replace("^", "");
        due("clause '" + text + "'", clause(text), -1);
        due("fault of '" + text + "'", x.fault(), marked.indexOf('^'));
    }

    /** A CASE that is told without a FAULT, by an object of its own so that it's the first one. */
    static Script ofCase(String name, String text) {
        Script s = new Script(name);
        s.due("tell '" + text + "'", s.tell(text), 0);
        s.due("fault of '" + text + "'", s.x.fault(), -1);
        return s;
    }

    /** A CASE by a LAW, both the first ones of an object of their own. */
    static Script of(String name, String law, String text) {
        Script s = ofCase(name, text);
        s.due("law '" + law + "'", s.law(law), 0);
        return s;
    }

    /** How many there are of all things, to see that a refused call does nothing; an object has but 512 calls. */
    String state() {
        StringBuilder all = new StringBuilder("counts");
        for (int what = 0; what <= 5; what++) {
            all.append(' ').append(x.count(what));
        }
        all.append(", fault ").append(x.fault());
        for (int number = 0; number < x.count(0); number++) {
            all.append(", asked ").append(x.asked(number, 1)).append(' ').append(x.asked(number, 2));
        }
        for (int law = 0; law < x.count(1); law++) {
            all.append(", rules ").append(x.rule(law, 13));
        }
        return all.toString();
    }

    void sameState(String what, String want) {
        same(what, state(), want);
    }

    /** All that calls show of the CASES and LAWS. */
    String whole() {
        StringBuilder all = new StringBuilder(state());
        for (int number = 0; number < x.count(0); number++) {
            for (int k = 0; k < x.asked(number, 0); k++) {
                for (int what = 0; what < 15; what++) {
                    all.append(' ').append(x.saying(number, k, what));
                }
            }
        }
        for (int law = 0; law < x.count(1); law++) {
            for (int what = 0; what < 13; what++) {
                all.append(' ').append(x.rule(law, what));
            }
        }
        return all.toString();
    }

    void sameWhole(String what, String want) {
        same(what, whole(), want);
    }

    private void same(String what, String got, String want) {
        if (!got.equals(want)) {
            wrong++;
            System.out.println(name + ": " + what + ": it is '" + got + "', due is '" + want + "'");
        }
    }

    static String times(String text, int many) {
        StringBuilder all = new StringBuilder();
        for (int i = 0; i < many; i++) {
            all.append(text);
        }
        return all.toString();
    }

    static void end(String good) {
        System.out.println(wrong == 0 ? good : wrong + " answers are wrong");
        if (wrong != 0) {
            System.exit(1);
        }
    }
}
