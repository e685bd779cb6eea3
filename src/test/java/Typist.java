/** Writes whole texts on a desk, in as few calls as its pieces allow. */
final class Typist {
    static final String SIGNS = "abcdefghijklmnopqrstuvwxyz0123456789 {}(),;=+-*<!'/?\n";
    static final String[] PIECES = {
        "let a = ", "let b = ", "let c = ", "a", "b", "c", "1", "2", "0", " + ", " * ", " - ", " < ", " == ", ";",
        "out ", "if ", " {", "}", " else {", "fun f(a) {", "fun g(a, b) {", "f(", "g(", ")", ", ", "ret ", "do ",
        "a = ", "b = ", "/*", "*/", "'x y'", "(", "!", "-"};

    private Typist() {
    }

    static Bracketdesk desk(String text) {
        Bracketdesk desk = new Bracketdesk();
        write(desk, text);
        return desk;
    }

    static void write(Bracketdesk desk, String text) {
        int place = 0;
        while (place < text.length()) {
            int piece = longestPiece(text, place);
            int answer = piece < 0 ? desk.key(SIGNS.indexOf(text.charAt(place))) : desk.say(piece);
            if (answer < 0) {
                throw new IllegalStateException("can't write " + text);
            }
            place += piece < 0 ? 1 : PIECES[piece].length();
        }
    }

    /** A desk whose text has so many signs: a comment behind what is written fills it up. */
    static Bracketdesk filled(String text, int size) {
        Bracketdesk desk = desk(text + "/*");
        for (int left = size - 2 - desk.desk(0); left > 0; left = size - 2 - desk.desk(0)) {
            if (left >= PIECES[21].length()) {
                desk.say(21);
            } else {
                desk.key(0);
            }
        }
        desk.say(31);
        return desk;
    }

    /** Just these cursors, by their places in the text. */
    static void cursorsAt(Bracketdesk desk, int... places) {
        for (int i = 0; i < places.length; i++) {
            String ahead = desk.all().substring(0, places[i]);
            int line = (int) ahead.chars().filter(c -> c == '\n').count();
            int column = places[i] - ahead.lastIndexOf('\n') - 1;
            if (i == 0) {
                desk.at(line, column);
            } else {
                desk.also(line, column);
            }
        }
    }

    /** Makes new states until there are so many; the text stays, and so do the cursors. */
    static void makeStates(Bracketdesk desk, int states) {
        if ((states - desk.desk(11)) % 2 == 1) {
            desk.key(36);
            desk.undo();
        }
        desk.record(true);
        for (int i = 0; i < 10 && desk.desk(11) < states; i++) {
            desk.key(36);
            desk.erase();
        }
        desk.record(false);
        while (desk.desk(11) + 20 <= states) {
            desk.play(1);
        }
        while (desk.desk(11) < states) {
            desk.key(36);
            desk.erase();
        }
    }

    private static int longestPiece(String text, int place) {
        int best = -1;
        for (int i = 0; i < PIECES.length; i++) {
            boolean fits = text.startsWith(PIECES[i], place);
            if (fits && (best < 0 || PIECES[i].length() > PIECES[best].length())) {
                best = i;
            }
        }
        return best;
    }

    /** The WORDS of a desk's text, each behind a blank. */
    static String words(Bracketdesk desk) {
        StringBuilder all = new StringBuilder();
        for (int i = 0; i < desk.desk(2); i++) {
            all.append(i == 0 ? "" : " ").append(desk.word(i));
        }
        return all.toString();
    }

    /** One of the numbers of each WORD. */
    static String ofWords(Bracketdesk desk, int what) {
        StringBuilder all = new StringBuilder();
        for (int i = 0; i < desk.desk(2); i++) {
            all.append(i == 0 ? "" : " ").append(desk.ofWord(i, what));
        }
        return all.toString();
    }

    static String ofLines(Bracketdesk desk, int what) {
        StringBuilder all = new StringBuilder();
        for (int i = 0; i < desk.desk(1); i++) {
            all.append(i == 0 ? "" : " ").append(desk.ofLine(i, what));
        }
        return all.toString();
    }

    /** The KINDS of the NODES, each with in how many NODES it is. */
    static String nodes(Bracketdesk desk) {
        StringBuilder all = new StringBuilder();
        for (int i = 0; i < desk.desk(3); i++) {
            all.append(i == 0 ? "" : " ").append(desk.node(i, 0)).append('.').append(desk.node(i, 1));
        }
        return all.toString();
    }

    static String ofNodes(Bracketdesk desk, int what) {
        StringBuilder all = new StringBuilder();
        for (int i = 0; i < desk.desk(3); i++) {
            all.append(i == 0 ? "" : " ").append(desk.node(i, what));
        }
        return all.toString();
    }

    /** The FAULTS, each as KIND@WORD. */
    static String faults(Bracketdesk desk) {
        StringBuilder all = new StringBuilder();
        for (int i = 0; i < desk.desk(5); i++) {
            all.append(i == 0 ? "" : " ").append(desk.fault(i, 0)).append('@').append(desk.fault(i, 1));
        }
        return all.toString();
    }
}
