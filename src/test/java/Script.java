/** An object under test together with the telling of texts to it and the count of wrong answers. */
final class Script {
    private static int wrong = 0;

    final CrossingWords x = new CrossingWords();
    private final String name;

    Script(String name) {
        this.name = name;
    }

    static int wrongOnes() {
        return wrong;
    }

    void due(String what, long got, long want) {
        if (got != want) {
            wrong++;
            System.out.println(name + ": " + what + " answered " + got + ", due is " + want);
        }
    }

    /** Feeds a text with blanks behind it up to twenty bytes; how many bytes are on the tape. */
    int put(String text) {
        int there = x.count(3);
        for (int i = 0; i < text.length(); i += 20) {
            int[] five = new int[5];
            for (int j = 0; j < 20; j++) {
                int sign = i + j < text.length() ? text.charAt(i + j) : ' ';
                five[j / 4] = five[j / 4] << 8 | sign & 255;
            }
            there = x.feed(five[0], five[1], five[2], five[3], five[4]);
        }
        return there;
    }

    int tell(String text) {
        put(text);
        return x.tell(text.length());
    }

    int more(int number, String text) {
        put(text);
        return x.more(number, text.length());
    }

    int law(String text) {
        put(text);
        return x.law(text.length());
    }

    int clause(String text) {
        put(text);
        return x.clause(text.length());
    }

    void tellFault(String text, int place) {
        due("tell '" + text + "'", tell(text), -1);
        due("fault of '" + text + "'", x.fault(), place);
    }

    void lawFault(String text, int place) {
        due("law '" + text + "'", law(text), -1);
        due("fault of '" + text + "'", x.fault(), place);
    }
}
