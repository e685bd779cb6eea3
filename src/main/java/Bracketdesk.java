import java.util.Arrays;

/** A desk on which a program's text is written, while words, brackets, a tree and names are kept right. */
public final class Bracketdesk {
    private static final int NONE = -1;
    private static final int REFUSED = -9;
    private static final int LOST = -10;

    private static final int MOST_SIGNS = 500;
    private static final int MOST_LINES = 40;
    private static final int MOST_STATES = 300;
    private static final int MOST_CURSORS = 4;
    private static final int MOST_MARKS = 4;
    private static final int MOST_ACTS = 20;
    private static final int MOST_BLOCKS = 8;
    private static final int MOST_ONES = 8;
    private static final int MOST_STEPS = 300;
    private static final int MOST_CALLS = 6;
    private static final int MOST_VALUE = 1000000;
    private static final int SHAPES = 10;
    private static final int PIECES = 36;

    private static final String SIGNS = "abcdefghijklmnopqrstuvwxyz0123456789 {}(),;=+-*<!'/?\n";
    private static final int LETTERS = 26;
    private static final int LINE_END = '\n';

    // KINDS of WORDS
    private static final int NAME_WORD = 0;
    private static final int KEYWORD = 1;
    private static final int NUMBER_WORD = 2;
    private static final int TEXT_WORD = 3;
    private static final int COMMENT_WORD = 4;
    private static final int BRACKET_WORD = 5;
    private static final int SIGN_WORD = 6;

    // SORTS of WORDS, by which the tree tells them apart: of a BRACKET and of a SIGN WORD of one sign that
    // sign, of each other WORD one of these (which are below all signs that can be SORTS)
    private static final int NO_MORE = 0;
    private static final int SOME_NAME = 1;
    private static final int SOME_NUMBER = 2;
    private static final int SOME_TEXT = 3;
    private static final int SOME_COMMENT = 4;
    private static final int SAME_SIGN = 5;
    private static final int WORD_LET = 6;
    private static final int WORD_OUT = 7;
    private static final int WORD_IF = 8;
    private static final int WORD_ELSE = 9;
    private static final int WORD_DO = 10;
    private static final int WORD_FUN = 11;
    private static final int WORD_RET = 12;

    // KINDS of NODES
    private static final int PROGRAM = 0;
    private static final int LET = 1;
    private static final int SET = 2;
    private static final int OUT = 3;
    private static final int IF = 4;
    private static final int DO = 5;
    private static final int FUN = 6;
    private static final int RET = 7;
    private static final int BLOCK = 8;
    private static final int DOES = 9;
    private static final int STRAY = 10;
    private static final int BINARY = 11;
    private static final int UNARY = 12;
    private static final int NUMBER = 13;
    private static final int TEXT = 14;
    private static final int USE = 15;
    private static final int CALL = 16;
    private static final int BRACKETS = 17;
    private static final int MISSING = 18;

    // KINDS of THINGS
    private static final int VARIABLE = 0;
    private static final int PARAMETER = 1;
    private static final int FUNCTION = 2;

    // KINDS of FAULTS
    private static final int NEED_NAME = 0;
    private static final int NEED_EQUAL = 1;
    private static final int NEED_SEMICOLON = 2;
    private static final int NEED_BLOCK = 3;
    private static final int NEED_BLOCK_END = 4;
    private static final int NEED_BRACKET = 5;
    private static final int NEED_BRACKET_END = 6;
    private static final int NO_EXPR = 7;
    private static final int NO_STATEMENT = 8;
    private static final int UNKNOWN = 9;
    private static final int NO_VARIABLE = 10;
    private static final int NO_FUNCTION = 11;
    private static final int ARGUMENTS = 12;
    private static final int OUTSIDE = 13;
    private static final int OPEN_TEXT = 14;
    private static final int OPEN_COMMENT = 15;
    private static final int FAULT_KINDS = 16;

    // acts that can be recorded
    private static final int KEY = 0;
    private static final int SAY = 1;
    private static final int ERASE = 2;
    private static final int GO = 3;
    private static final int ACT_ROOM = 100;

    private Reading now = new Reading();
    // holds what the TEXT is about to become; between two calls it holds nothing that matters
    private Reading next = new Reading();
    private final Pins pins = new Pins();
    private final History history = new History();
    private final Runner runner = new Runner();
    private final Changes changes = new Changes();
    private final Script typed = new Script();
    private final Row places = new Row(MOST_CURSORS);
    private final Row acts = new Row(MOST_ACTS);
    private final Row keptSigns = new Row(64);
    private final Row keptEnds = new Row(16);
    private final Row freshSigns = new Row(64);
    private final Row freshEnds = new Row(16);
    private final StringBuilder told = new StringBuilder();
    private boolean isRecording;
    private int knocks;

    public Bracketdesk() {
        now.read();
    }

    // ---- typing

    public int key(int code) throws IllegalArgumentException {
        if (code < 0 || code >= SIGNS.length()) {
            throw new IllegalArgumentException();
        }
        return noted(KEY, code, perform(KEY, code));
    }

    public int say(int piece) throws IllegalArgumentException {
        if (piece < 0 || piece >= PIECES) {
            throw new IllegalArgumentException();
        }
        return noted(SAY, piece, perform(SAY, piece));
    }

    public int erase() {
        return noted(ERASE, 0, perform(ERASE, 0));
    }

    public int go(int where) throws IllegalArgumentException {
        if (where < 0 || where > 7) {
            throw new IllegalArgumentException();
        }
        return noted(GO, where, perform(GO, where));
    }

    public int at(int line, int column) throws IndexOutOfBoundsException {
        checkColumn(line, column);
        pins.set(now.words.lineStart.get(line) + column);
        return pins.first();
    }

    public int also(int line, int column) throws IndexOutOfBoundsException, IllegalStateException {
        checkColumn(line, column);
        int place = now.words.lineStart.get(line) + column;
        if (!pins.isCursor(place)) {
            if (pins.cursors.size() >= MOST_CURSORS) {
                throw new IllegalStateException();
            }
            pins.addCursor(place);
        }
        return pins.cursors.size();
    }

    public int lone() {
        int gone = pins.cursors.size() - 1;
        pins.set(pins.first());
        return gone;
    }

    public int leap() {
        int word = now.words.startingAt(pins.first());
        int partner = word == NONE ? NONE : now.words.partner.get(word);
        if (partner == NONE) {
            return NONE;
        }
        pins.set(now.words.start.get(partner));
        return pins.first();
    }

    public int record(boolean isOn) {
        if (isOn) {
            acts.clear();
        }
        isRecording = isOn;
        return acts.size();
    }

    public int play(int times) throws IllegalArgumentException, IllegalStateException {
        if (times < 1 || times > 3) {
            throw new IllegalArgumentException();
        }
        if (isRecording) {
            throw new IllegalStateException();
        }
        int done = 0;
        for (int time = 0; time < times; time++) {
            for (int i = 0; i < acts.size(); i++) {
                int act = acts.get(i);
                if (perform(act / ACT_ROOM, act % ACT_ROOM) == REFUSED) {
                    return done;
                }
                done++;
            }
        }
        return done;
    }

    public int mark(int k) throws IllegalArgumentException {
        checkMark(k);
        int before = pins.marks.get(k);
        pins.marks.set(k, pins.first());
        return before;
    }

    public int jump(int k) throws IllegalArgumentException {
        checkMark(k);
        int place = pins.marks.get(k);
        if (place != NONE) {
            pins.set(place);
        }
        return place;
    }

    // ---- history, folds, layout

    public int undo() {
        return goToState(history.parent());
    }

    public int redo(int child) throws IllegalArgumentException {
        if (child < 0) {
            throw new IllegalArgumentException();
        }
        return goToState(history.child(child));
    }

    public int fold(int from, int to) throws IndexOutOfBoundsException, IllegalArgumentException {
        checkLine(from);
        checkLine(to);
        if (to <= from) {
            throw new IllegalArgumentException();
        }
        pins.addFold(from, to);
        return pins.hiddenLines();
    }

    public int foldBlock(int line) throws IndexOutOfBoundsException {
        checkLine(line);
        Words words = now.words;
        for (int i = words.lineWord.get(line + 1) - 1; i >= words.lineWord.get(line); i--) {
            int partner = words.sort.get(i) == '{' ? words.partner.get(i) : NONE;
            if (partner != NONE && words.line.get(partner) > line) {
                pins.addFold(line, words.line.get(partner));
                return words.line.get(partner);
            }
        }
        return REFUSED;
    }

    public int open(int line) throws IndexOutOfBoundsException {
        checkLine(line);
        return pins.openFolds(line);
    }

    public int indent(int width) throws IllegalArgumentException {
        if (width < 0 || width > 4) {
            throw new IllegalArgumentException();
        }
        int others = changes.draftIndent(now, next.script, width);
        if (others == 0) {
            return 0;
        }
        if (next.script.isTooLong() || history.isFull()) {
            return REFUSED;
        }
        next.read();
        become();
        return others;
    }

    // ---- changes by the tree

    public int rename(int word, int name) throws IndexOutOfBoundsException, IllegalArgumentException {
        checkWord(word);
        checkName(name);
        int thing = now.names.meaning.get(word);
        if (now.faultWords.size() > 0 || thing == NONE) {
            return REFUSED;
        }
        int declaring = now.names.word.get(thing);
        int users = now.names.users.get(thing);
        int sign = signOf(name);
        if (now.words.size(declaring) == 1 && now.script.sign(now.words.start.get(declaring)) == sign) {
            return 0;
        }
        changes.draftRename(now, next.script, thing, sign);
        int refusal = tryOut(true);
        return refusal == 0 ? users : refusal;
    }

    public int draw(int word, int name, boolean isGreat) throws IndexOutOfBoundsException, IllegalArgumentException {
        checkWord(word);
        checkName(name);
        int node = now.faultWords.size() > 0 ? NONE : changes.drawable(now, word, isGreat);
        if (node == NONE) {
            return REFUSED;
        }
        int statement = now.tree.statementOf(node);
        int declaring = now.firstWord(statement) + 1;
        changes.draftDraw(now, next.script, node, signOf(name));
        int refusal = tryOut(true);
        return refusal == 0 ? declaring : refusal;
    }

    public int putIn(int word) throws IndexOutOfBoundsException {
        checkWord(word);
        int thing = now.faultWords.size() > 0 ? NONE : now.names.meaning.get(word);
        int use = thing == NONE ? NONE : changes.usePutIn(now, thing);
        if (use == NONE) {
            return REFUSED;
        }
        int let = now.names.node.get(thing);
        changes.draftPutIn(now, next.script, let, use, false);
        next.read();
        if (!changes.isNodeStill(now, next, let + 1)) {
            changes.draftPutIn(now, next.script, let, use, true);
        }
        int refusal = tryOut(true);
        return refusal == 0 ? now.script.size() : refusal;
    }

    public int turn(int word) throws IndexOutOfBoundsException {
        checkWord(word);
        int node = now.faultWords.size() > 0 ? NONE : changes.turnable(now, word);
        if (node == NONE) {
            return REFUSED;
        }
        changes.draftTurn(now, next.script, node);
        int refusal = tryOut(false);
        return refusal == 0 ? now.script.size() : refusal;
    }

    public int prune() {
        if (now.faultWords.size() > 0) {
            return REFUSED;
        }
        int gone = 0;
        Reading left = now;
        for (int i = 0; i < MOST_SIGNS; i++) {
            int let = changes.unusedLet(left);
            if (let == NONE) {
                break;
            }
            changes.draftWithout(left, typed, let);
            next.script.clear();
            next.script.copy(typed, 0, typed.size());
            next.read();
            left = next;
            gone++;
        }
        if (gone == 0) {
            return 0;
        }
        int refusal = tryOut(false);
        return refusal == 0 ? gone : refusal;
    }

    public int refine(int shape) throws IllegalArgumentException {
        checkShape(shape);
        if (now.faultWords.size() > 0) {
            return REFUSED;
        }
        int node = changes.shaped(now, shape, 0);
        if (node == NONE) {
            return NONE;
        }
        int word = now.firstWord(node);
        changes.draftRefine(now, next.script, node, shape);
        int refusal = tryOut(false);
        return refusal == 0 ? word : refusal;
    }

    public int save() {
        now.writeStatements(keptSigns, keptEnds);
        return keptEnds.size();
    }

    public int drawn() {
        int dirty = pins.dirtyLines();
        pins.dirty.fill(now.words.lines(), 0);
        return dirty;
    }

    // ---- what there is

    public String text(int line) throws IndexOutOfBoundsException {
        checkLine(line);
        return signs(now.words.lineStart.get(line), now.words.lineEnd.get(line));
    }

    public String all() {
        return signs(0, now.script.size());
    }

    public int ofLine(int line, int what) throws IndexOutOfBoundsException, IllegalArgumentException {
        checkLine(line);
        switch (what) {
            case 0: return now.words.lineEnd.get(line) - now.words.lineStart.get(line);
            case 1: return now.words.countIn(line);
            case 2: return now.words.lineState.get(line);
            case 3: return pins.isHidden(line) ? 1 : 0;
            case 4: return pins.foldEnd(line);
            case 5: return pins.dirty.get(line);
            case 6: return now.blanks(line);
            default: throw new IllegalArgumentException();
        }
    }

    public String word(int word) throws IndexOutOfBoundsException {
        checkWord(word);
        return signs(now.words.start.get(word), now.words.end.get(word));
    }

    public int ofWord(int word, int what) throws IndexOutOfBoundsException, IllegalArgumentException {
        checkWord(word);
        Words words = now.words;
        int line = words.line.get(word);
        switch (what) {
            case 0: return kindOf(words.sort.get(word));
            case 1: return line;
            case 2: return words.start.get(word) - words.lineStart.get(line);
            case 3: return words.partner.get(word);
            case 4: return now.names.meaning.get(word);
            case 5: return now.guess(word);
            case 6: return now.value(word);
            default: throw new IllegalArgumentException();
        }
    }

    public int node(int node, int what) throws IndexOutOfBoundsException, IllegalArgumentException {
        if (node < 0 || node >= now.tree.kind.size()) {
            throw new IndexOutOfBoundsException();
        }
        switch (what) {
            case 0: return now.tree.kind.get(node);
            case 1: return now.tree.depth.get(node);
            case 2: return now.firstWord(node);
            case 3: return now.tree.length(node);
            case 4: return now.tree.kids.get(node);
            default: throw new IllegalArgumentException();
        }
    }

    public int thing(int thing, int what) throws IndexOutOfBoundsException, IllegalArgumentException {
        checkThing(thing);
        switch (what) {
            case 0: return now.names.kind.get(thing);
            case 1: return now.names.word.get(thing);
            case 2: return now.names.users.get(thing);
            case 3: return now.names.scopes.get(thing);
            case 4: return now.names.kind.get(thing) == FUNCTION ? now.names.parameters(thing) : NONE;
            default: throw new IllegalArgumentException();
        }
    }

    public String uses(int thing) throws IndexOutOfBoundsException {
        checkThing(thing);
        told.setLength(0);
        for (int i = 0; i < now.words.count(); i++) {
            if (now.names.meaning.get(i) == thing) {
                tellNumber(i);
            }
        }
        return told.toString();
    }

    public int fault(int fault, int what) throws IndexOutOfBoundsException, IllegalArgumentException {
        if (fault < 0 || fault >= now.faultWords.size()) {
            throw new IndexOutOfBoundsException();
        }
        switch (what) {
            case 0: return now.faultKinds.get(fault);
            case 1: return now.faultWords.get(fault);
            default: throw new IllegalArgumentException();
        }
    }

    public String outline() {
        tellOutline();
        return told.toString();
    }

    public String complete(int nth, boolean isFunction) throws IllegalArgumentException {
        if (nth < 0) {
            throw new IllegalArgumentException();
        }
        int thing = now.names.offered(now, pins.first(), nth, isFunction);
        if (thing == NONE) {
            return "";
        }
        int word = now.names.word.get(thing);
        return signs(now.words.start.get(word), now.words.end.get(word));
    }

    public int find(int shape, int nth) throws IllegalArgumentException {
        checkShape(shape);
        if (nth < 0) {
            throw new IllegalArgumentException();
        }
        int node = changes.shaped(now, shape, nth);
        return node == NONE ? NONE : now.firstWord(node);
    }

    public String run() {
        tellRun();
        return told.toString();
    }

    public int ran(int what) throws IllegalArgumentException {
        if (what < 0 || what > 2) {
            throw new IllegalArgumentException();
        }
        if (now.faultWords.size() > 0) {
            return NONE;
        }
        runner.execute(now);
        switch (what) {
            case 0: return runner.steps;
            case 1: return runner.outs.size();
            default: return runner.isCut ? 1 : 0;
        }
    }

    public String cursors() {
        tellCursors();
        return told.toString();
    }

    public int changed() {
        now.writeStatements(freshSigns, freshEnds);
        int fresh = freshEnds.size();
        int kept = keptEnds.size();
        int least = Math.min(fresh, kept);
        int ahead = 0;
        while (ahead < least && isKept(ahead, ahead)) {
            ahead++;
        }
        int behind = 0;
        while (behind < least - ahead && isKept(fresh - 1 - behind, kept - 1 - behind)) {
            behind++;
        }
        return fresh - ahead - behind;
    }

    public int desk(int what) throws IllegalArgumentException {
        switch (what) {
            case 0: return now.script.size();
            case 1: return now.words.lines();
            case 2: return now.words.count();
            case 3: return now.tree.kind.size();
            case 4: return now.names.kind.size();
            case 5: return now.faultWords.size();
            case 6: return pins.cursors.size();
            case 7: return pins.foldFrom.size();
            case 8: return pins.hiddenLines();
            case 9: return pins.dirtyLines();
            case 10: return pins.readAgain;
            case 11: return history.count();
            case 12: return history.state;
            case 13: return history.children();
            case 14: return acts.size();
            case 15: return knocks;
            default: throw new IllegalArgumentException();
        }
    }

    public int knock() {
        knocks++;
        return knocks;
    }

    public boolean isSound() {
        next.script.clear();
        next.script.copy(now.script, 0, now.script.size());
        next.words.read(next.script);
        return now.words.isLike(next.words)
            && now.tree.isWhole(now.parser.count)
            && now.words.hasFaithfulPartners()
            && now.names.areRight()
            && pins.areWithin(now.script.size(), now.words.lines())
            && history.holds(now.script);
    }

    public long digest() {
        long d = 5809;
        for (int i = 0; i < 16; i++) {
            d = d * 31 + desk(i);
        }
        d = d * 31 + now.script.size();
        for (int i = 0; i < now.script.size(); i++) {
            d = d * 31 + now.script.sign(i);
        }
        d = digestOfWords(d);
        d = digestOfTree(d);
        tellOutline();
        d = digestOfTold(d);
        tellRun();
        d = digestOfTold(d);
        tellCursors();
        d = digestOfTold(d);
        d = d * 31 + changed();
        for (int i = 0; i < MOST_MARKS; i++) {
            d = d * 31 + pins.marks.get(i);
        }
        for (int i = 0; i < SHAPES; i++) {
            int shaped = changes.shaped(now, i, 0);
            d = d * 31 + (shaped == NONE ? NONE : now.firstWord(shaped));
        }
        return d * 31 + (isSound() ? 1 : 0);
    }

    // ---- what the calls have in common

    private void checkLine(int line) {
        if (line < 0 || line >= now.words.lines()) {
            throw new IndexOutOfBoundsException();
        }
    }

    private void checkColumn(int line, int column) {
        checkLine(line);
        if (column < 0 || column > now.words.lineEnd.get(line) - now.words.lineStart.get(line)) {
            throw new IndexOutOfBoundsException();
        }
    }

    private void checkWord(int word) {
        if (word < 0 || word >= now.words.count()) {
            throw new IndexOutOfBoundsException();
        }
    }

    private void checkThing(int thing) {
        if (thing < 0 || thing >= now.names.kind.size()) {
            throw new IndexOutOfBoundsException();
        }
    }

    private static void checkName(int name) {
        if (name < 0 || name >= LETTERS) {
            throw new IllegalArgumentException();
        }
    }

    private static void checkMark(int k) {
        if (k < 0 || k >= MOST_MARKS) {
            throw new IllegalArgumentException();
        }
    }

    private static void checkShape(int shape) {
        if (shape < 0 || shape >= SHAPES) {
            throw new IllegalArgumentException();
        }
    }

    private static int signOf(int code) {
        return code >= 0 && code < SIGNS.length() ? SIGNS.charAt(code) : ' ';
    }

    private static boolean isLetter(int sign) {
        return sign >= 'a' && sign <= 'z';
    }

    private static boolean isDigit(int sign) {
        return sign >= '0' && sign <= '9';
    }

    private static boolean isLetterOrDigit(int sign) {
        return sign >= 'a' && sign <= 'z' || sign >= '0' && sign <= '9';
    }

    private static boolean isBracket(int sign) {
        return sign == '{' || sign == '}' || sign == '(' || sign == ')';
    }

    private static int kindOf(int sort) {
        switch (sort) {
            case SOME_NAME: return NAME_WORD;
            case SOME_NUMBER: return NUMBER_WORD;
            case SOME_TEXT: return TEXT_WORD;
            case SOME_COMMENT: return COMMENT_WORD;
            case SAME_SIGN: return SIGN_WORD;
            default: break;
        }
        if (sort >= WORD_LET && sort <= WORD_RET) {
            return KEYWORD;
        }
        return isBracket(sort) ? BRACKET_WORD : SIGN_WORD;
    }

    private static String pieceOf(int piece) {
        switch (piece) {
            case 0: return "let a = ";
            case 1: return "let b = ";
            case 2: return "let c = ";
            case 3: return "a";
            case 4: return "b";
            case 5: return "c";
            case 6: return "1";
            case 7: return "2";
            case 8: return "0";
            case 9: return " + ";
            case 10: return " * ";
            case 11: return " - ";
            case 12: return " < ";
            case 13: return " == ";
            case 14: return ";";
            case 15: return "out ";
            case 16: return "if ";
            case 17: return " {";
            case 18: return "}";
            case 19: return " else {";
            case 20: return "fun f(a) {";
            case 21: return "fun g(a, b) {";
            case 22: return "f(";
            case 23: return "g(";
            case 24: return ")";
            case 25: return ", ";
            case 26: return "ret ";
            case 27: return "do ";
            case 28: return "a = ";
            case 29: return "b = ";
            case 30: return "/*";
            case 31: return "*/";
            case 32: return "'x y'";
            case 33: return "(";
            case 34: return "!";
            case 35: return "-";
            default: return "";
        }
    }

    private int noted(int act, int which, int answer) {
        if (isRecording && answer != REFUSED && acts.size() < MOST_ACTS) {
            acts.add(act * ACT_ROOM + which);
        }
        return answer;
    }

    private int perform(int act, int which) {
        if (act == GO) {
            pins.travel(now.words, now.script.size(), which);
            return pins.cursors.size();
        }
        fillTyped(act, which);
        int back = act == ERASE ? 1 : 0;
        int edits = pins.cursorsFrom(back);
        if (edits == 0) {
            return 0;
        }
        if (history.isFull() || isTooMuch(edits, typed.size() - back)) {
            return REFUSED;
        }
        places.become(pins.cursors);
        pins.readAgain = 0;
        for (int i = places.size() - 1; i >= places.size() - edits; i--) {
            replace(places.get(i) - back, places.get(i));
        }
        now.read();
        history.keep(now.script);
        runner.forget();
        return act == ERASE ? edits : now.script.size();
    }

    private void fillTyped(int act, int which) {
        typed.clear();
        if (act == KEY) {
            typed.add(signOf(which), NONE);
        } else if (act == SAY) {
            typed.write(pieceOf(which));
        }
    }

    private boolean isTooMuch(int edits, int more) {
        return now.script.size() + edits * more > MOST_SIGNS
            || now.script.lineEnds() + edits * typed.lineEnds() >= MOST_LINES;
    }

    /** One REPLACEMENT: what is typed instead of the signs between two places. */
    private void replace(int from, int to) {
        next.script.clear();
        next.script.copy(now.script, 0, from);
        next.script.copy(typed, 0, typed.size());
        next.script.copy(now.script, to, now.script.size());
        next.words.read(next.script);
        follow(from, to, typed.size());
    }

    /** The next reading, of which the words are read, becomes that which is now. */
    private void follow(int from, int to, int put) {
        pins.follow(from, to, put);
        pins.followLines(now, next);
        Reading old = now;
        now = next;
        next = old;
    }

    /** One REPLACEMENT of all signs that differ, by the next reading, which is read whole. */
    private void replaceAll() {
        int least = Math.min(now.script.size(), next.script.size());
        int ahead = 0;
        while (ahead < least && now.script.sign(ahead) == next.script.sign(ahead)) {
            ahead++;
        }
        int oldEnd = now.script.size();
        int newEnd = next.script.size();
        while (oldEnd > ahead && newEnd > ahead && now.script.sign(oldEnd - 1) == next.script.sign(newEnd - 1)) {
            oldEnd--;
            newEnd--;
        }
        pins.readAgain = 0;
        follow(ahead, oldEnd, newEnd - ahead);
        runner.forget();
    }

    private void become() {
        replaceAll();
        history.keep(now.script);
    }

    private int goToState(int state) {
        if (state == NONE) {
            return REFUSED;
        }
        history.load(state, next.script);
        next.read();
        replaceAll();
        history.state = state;
        return state;
    }

    /** The draft in the next script becomes the TEXT, if it may; otherwise what is told instead of 0. */
    private int tryOut(boolean mustKeep) {
        if (next.script.isTooLong() || history.isFull()) {
            return REFUSED;
        }
        next.read();
        int word = mustKeep ? changes.firstLost(now, next) : NONE;
        if (word != NONE) {
            return LOST - word;
        }
        if (next.faultWords.size() > 0) {
            return REFUSED;
        }
        become();
        return 0;
    }

    private boolean isKept(int fresh, int kept) {
        int from = freshEnds.get(fresh - 1);
        int keptFrom = keptEnds.get(kept - 1);
        int length = freshEnds.get(fresh) - from;
        if (length != keptEnds.get(kept) - keptFrom) {
            return false;
        }
        for (int i = 0; i < length; i++) {
            if (freshSigns.get(from + i) != keptSigns.get(keptFrom + i)) {
                return false;
            }
        }
        return true;
    }

    private String signs(int from, int to) {
        told.setLength(0);
        tellSigns(from, to);
        return told.toString();
    }

    private void tellSigns(int from, int to) {
        for (int i = from; i < to; i++) {
            told.append((char) now.script.sign(i));
        }
    }

    private void tellNumber(int number) {
        if (told.length() > 0) {
            told.append(' ');
        }
        told.append(number);
    }

    private void tellCursors() {
        told.setLength(0);
        for (int i = 0; i < pins.cursors.size(); i++) {
            tellNumber(pins.cursors.get(i));
        }
    }

    private void tellRun() {
        told.setLength(0);
        if (now.faultWords.size() > 0) {
            told.append('?');
            return;
        }
        runner.execute(now);
        for (int i = 0; i < runner.outs.size(); i++) {
            tellNumber(runner.outs.get(i));
        }
        if (runner.isCut) {
            told.append('~');
        }
    }

    private void tellOutline() {
        told.setLength(0);
        int deep = 0;
        for (int n = 0; n < now.tree.kind.size(); n++) {
            if (now.tree.kind.get(n) == FUN) {
                int depth = now.tree.countAbove(n, FUN);
                tellBrackets(deep, depth);
                tellFunction(n);
                deep = depth;
            }
        }
        for (int i = 0; i < deep; i++) {
            told.append(']');
        }
    }

    private void tellBrackets(int deep, int depth) {
        if (depth > deep) {
            told.append('[');
            return;
        }
        for (int i = depth; i < deep; i++) {
            told.append(']');
        }
        if (told.length() > 0) {
            told.append(' ');
        }
    }

    private void tellFunction(int node) {
        int name = now.tree.from.get(node) + 1;
        if (now.parser.sorts.get(name) != SOME_NAME) {
            told.append('?');
            return;
        }
        int word = now.parser.tokens.get(name);
        tellSigns(now.words.start.get(word), now.words.end.get(word));
    }

    private long digestOfWords(long before) {
        long d = before;
        for (int i = 0; i < now.words.lines(); i++) {
            for (int k = 0; k < 7; k++) {
                d = d * 31 + ofLine(i, k);
            }
        }
        for (int i = 0; i < now.words.count(); i++) {
            for (int k = 0; k < 7; k++) {
                d = d * 31 + ofWord(i, k);
            }
        }
        return d;
    }

    private long digestOfTree(long before) {
        long d = before;
        for (int i = 0; i < now.tree.kind.size(); i++) {
            for (int k = 0; k < 5; k++) {
                d = d * 31 + node(i, k);
            }
        }
        for (int i = 0; i < now.names.kind.size(); i++) {
            for (int k = 0; k < 5; k++) {
                d = d * 31 + thing(i, k);
            }
        }
        for (int i = 0; i < now.faultWords.size(); i++) {
            d = d * 31 + fault(i, 0);
            d = d * 31 + fault(i, 1);
        }
        return d;
    }

    private long digestOfTold(long before) {
        long d = before * 31 + told.length();
        for (int i = 0; i < told.length(); i++) {
            d = d * 31 + told.charAt(i);
        }
        return d;
    }

    // ---- rows and texts

    /** Numbers in a row. Beside its numbers there are 0s, so that no index can be wrong. */
    private static final class Row {
        private static final int MOST = 1 << 20;

        private int[] cells;
        private int size;

        Row(int room) {
            cells = new int[room > 0 ? room : 1];
        }

        int size() {
            return size;
        }

        int get(int i) {
            return i >= 0 && i < size && i < cells.length ? cells[i] : 0;
        }

        void set(int i, int number) {
            if (i >= 0 && i < size && i < cells.length) {
                cells[i] = number;
            }
        }

        void add(int number) {
            if (size >= cells.length && cells.length < MOST) {
                cells = Arrays.copyOf(cells, cells.length * 2);
            }
            if (size >= 0 && size < cells.length) {
                cells[size] = number;
                size++;
            }
        }

        void clear() {
            size = 0;
        }

        void cut(int length) {
            if (length >= 0 && length < size) {
                size = length;
            }
        }

        /** Takes the last number away. */
        int pop() {
            if (size < 1 || size > cells.length) {
                return 0;
            }
            size--;
            return cells[size];
        }

        int last() {
            return size > 0 && size <= cells.length ? cells[size - 1] : 0;
        }

        void fill(int length, int number) {
            clear();
            for (int i = 0; i < length; i++) {
                add(number);
            }
        }

        void become(Row other) {
            clear();
            for (int i = 0; i < other.size; i++) {
                add(other.get(i));
            }
        }
    }

    /** Signs in a row, each with the place it had in the text that it was copied from. */
    private static final class Script {
        // above MOST_SIGNS, so that a text that is too long is known to be so
        private static final int ROOM = 512;

        private final int[] signs = new int[ROOM];
        private final int[] origins = new int[ROOM];
        private int size;

        int size() {
            return size;
        }

        int sign(int place) {
            return place >= 0 && place < size && place < ROOM ? signs[place] : 0;
        }

        int origin(int place) {
            return place >= 0 && place < size && place < ROOM ? origins[place] : NONE;
        }

        int lineEnds() {
            int ends = 0;
            for (int i = 0; i < size; i++) {
                if (sign(i) == LINE_END) {
                    ends++;
                }
            }
            return ends;
        }

        boolean isTooLong() {
            return size > MOST_SIGNS || lineEnds() >= MOST_LINES;
        }

        void clear() {
            size = 0;
        }

        void add(int sign, int origin) {
            if (size >= 0 && size < ROOM) {
                signs[size] = sign;
                origins[size] = origin;
                size++;
            }
        }

        void copy(Script source, int from, int to) {
            for (int i = from; i < to; i++) {
                add(source.sign(i), i);
            }
        }

        /** Copies, behind a blank where a letter or digit would come beside another one. */
        void paste(Script source, int from, int to) {
            if (from < to) {
                part(source.sign(from));
                copy(source, from, to);
            }
        }

        /** Puts new signs, behind a blank where a letter or digit would come beside another one. */
        void write(String put) {
            for (int i = 0; i < put.length(); i++) {
                if (i == 0) {
                    part(put.charAt(i));
                }
                add(put.charAt(i), NONE);
            }
        }

        void write(int sign) {
            part(sign);
            add(sign, NONE);
        }

        private void part(int sign) {
            if (isLetterOrDigit(sign) && isLetterOrDigit(sign(size - 1))) {
                add(' ', NONE);
            }
        }

        boolean isAlike(int from, int to, int otherFrom, int otherTo) {
            if (to - from != otherTo - otherFrom) {
                return false;
            }
            for (int i = 0; i < to - from; i++) {
                if (sign(from + i) != sign(otherFrom + i)) {
                    return false;
                }
            }
            return true;
        }
    }

    /** The WORDS of a text, and its LINES with their STATES. */
    private static final class Words {
        final Row start = new Row(64);
        final Row end = new Row(64);
        final Row line = new Row(64);
        final Row sort = new Row(64);
        final Row partner = new Row(64);
        final Row lineStart = new Row(16);
        final Row lineEnd = new Row(16);
        final Row lineState = new Row(16);
        // one more than there are LINES: the last one tells how many WORDS there are
        final Row lineWord = new Row(16);
        private final Row stillOpen = new Row(16);
        int state;

        int count() {
            return start.size();
        }

        int lines() {
            return lineStart.size();
        }

        int countIn(int row) {
            return lineWord.get(row + 1) - lineWord.get(row);
        }

        int size(int word) {
            return end.get(word) - start.get(word);
        }

        int startingAt(int place) {
            for (int i = 0; i < start.size(); i++) {
                if (start.get(i) == place) {
                    return i;
                }
            }
            return NONE;
        }

        int countAhead(int place) {
            int ahead = 0;
            while (ahead < start.size() && start.get(ahead) < place) {
                ahead++;
            }
            return ahead;
        }

        int lineOf(int place) {
            int row = 0;
            while (row < lineEnd.size() - 1 && lineEnd.get(row) < place) {
                row++;
            }
            return row;
        }

        void read(Script script) {
            clear();
            int begin = 0;
            for (int i = 0; i <= script.size(); i++) {
                if (i == script.size() || script.sign(i) == LINE_END) {
                    readLine(script, begin, i);
                    begin = i + 1;
                }
            }
            lineWord.add(start.size());
            findPartners();
        }

        private void clear() {
            start.clear();
            end.clear();
            line.clear();
            sort.clear();
            partner.clear();
            lineStart.clear();
            lineEnd.clear();
            lineState.clear();
            lineWord.clear();
            state = 0;
        }

        private void readLine(Script script, int from, int to) {
            lineStart.add(from);
            lineEnd.add(to);
            lineState.add(state);
            lineWord.add(start.size());
            int place = from;
            for (int i = from; i < to && place < to; i++) {
                if (state > 0 || isPair(script, place, to, '/', '*')) {
                    int behind = commentEnd(script, place, to);
                    addWord(SOME_COMMENT, place, behind);
                    place = behind;
                } else if (script.sign(place) == ' ') {
                    place++;
                } else {
                    place = readWord(script, place, to);
                }
            }
        }

        private static boolean isPair(Script script, int place, int to, int first, int second) {
            return place + 1 < to && script.sign(place) == first && script.sign(place + 1) == second;
        }

        /** The place behind the part of a COMMENT that is in this LINE; the STATE goes along. */
        private int commentEnd(Script script, int from, int to) {
            int place = from;
            for (int i = from; i < to && place < to; i++) {
                if (isPair(script, place, to, '/', '*')) {
                    state++;
                    place += 2;
                } else if (isPair(script, place, to, '*', '/')) {
                    state--;
                    place += 2;
                    if (state == 0) {
                        return place;
                    }
                } else {
                    place++;
                }
            }
            return place;
        }

        private int readWord(Script script, int from, int to) {
            int sign = script.sign(from);
            int place = from + 1;
            int wordSort = sign;
            if (isLetter(sign)) {
                while (place < to && isLetterOrDigit(script.sign(place))) {
                    place++;
                }
                wordSort = nameOrKeyword(script, from, place);
            } else if (isDigit(sign)) {
                while (place < to && isDigit(script.sign(place))) {
                    place++;
                }
                wordSort = SOME_NUMBER;
            } else if (sign == '\'') {
                while (place < to && script.sign(place) != '\'') {
                    place++;
                }
                place = place < to ? place + 1 : to;
                wordSort = SOME_TEXT;
            } else if (isPair(script, from, to, '=', '=')) {
                place++;
                wordSort = SAME_SIGN;
            }
            addWord(wordSort, from, place);
            return place;
        }

        private static int nameOrKeyword(Script script, int from, int to) {
            if (to - from > 4) {
                return SOME_NAME;
            }
            int letters = 0;
            for (int i = from; i < to; i++) {
                letters = letters << 8 | script.sign(i);
            }
            switch (letters) {
                case 'l' << 16 | 'e' << 8 | 't': return WORD_LET;
                case 'o' << 16 | 'u' << 8 | 't': return WORD_OUT;
                case 'i' << 8 | 'f': return WORD_IF;
                case 'e' << 24 | 'l' << 16 | 's' << 8 | 'e': return WORD_ELSE;
                case 'd' << 8 | 'o': return WORD_DO;
                case 'f' << 16 | 'u' << 8 | 'n': return WORD_FUN;
                case 'r' << 16 | 'e' << 8 | 't': return WORD_RET;
                default: return SOME_NAME;
            }
        }

        private void addWord(int wordSort, int from, int to) {
            start.add(from);
            end.add(to);
            line.add(lineStart.size() - 1);
            sort.add(wordSort);
            partner.add(NONE);
        }

        private void findPartners() {
            stillOpen.clear();
            for (int i = 0; i < sort.size(); i++) {
                int sign = sort.get(i);
                if (sign == '(' || sign == '{') {
                    stillOpen.add(i);
                } else if (sign == ')' || sign == '}') {
                    int like = sign == ')' ? '(' : '{';
                    if (stillOpen.size() > 0 && sort.get(stillOpen.last()) == like) {
                        int opening = stillOpen.pop();
                        partner.set(opening, i);
                        partner.set(i, opening);
                    }
                }
            }
        }

        boolean isLike(Words other) {
            if (count() != other.count() || lines() != other.lines() || state != other.state) {
                return false;
            }
            for (int i = 0; i < count(); i++) {
                if (start.get(i) != other.start.get(i) || end.get(i) != other.end.get(i)
                        || sort.get(i) != other.sort.get(i) || line.get(i) != other.line.get(i)) {
                    return false;
                }
            }
            for (int i = 0; i < lines(); i++) {
                if (lineStart.get(i) != other.lineStart.get(i) || lineState.get(i) != other.lineState.get(i)) {
                    return false;
                }
            }
            return true;
        }

        boolean hasFaithfulPartners() {
            for (int i = 0; i < count(); i++) {
                if (partner.get(i) != NONE && partner.get(partner.get(i)) != i) {
                    return false;
                }
            }
            return true;
        }
    }

    // ---- the tree

    /** Takes the WORDS that are no COMMENTS one by one, and makes NODES and FAULTS of them. */
    private static final class Parser {
        // the WORDS that are no COMMENTS: their numbers and SORTS; behind the last one the number
        // of WORDS, and NO_MORE
        final Row tokens = new Row(64);
        final Row sorts = new Row(64);
        // the NODES in the order in which they are made: a BINARY only behind its first part
        final Row kind = new Row(64);
        final Row from = new Row(64);
        final Row to = new Row(64);
        final Row firstKid = new Row(64);
        final Row lastKid = new Row(64);
        final Row sibling = new Row(64);
        final Row lacksEnd = new Row(64);
        // the NAMES that declare THINGS, as they come
        final Row declared = new Row(16);
        final Row declaredKind = new Row(16);
        final Row declaredBy = new Row(16);
        // of each WORD, and behind the last one, a bit for each KIND of FAULT there
        final Row faults = new Row(64);
        int count;
        private int next;

        void read(Words words) {
            clear();
            for (int i = 0; i < words.count(); i++) {
                if (words.sort.get(i) != SOME_COMMENT) {
                    tokens.add(i);
                    sorts.add(words.sort.get(i));
                }
            }
            count = tokens.size();
            tokens.add(words.count());
            sorts.add(NO_MORE);
            faults.fill(words.count() + 1, 0);
            int program = make(PROGRAM);
            for (int i = 0; i < count && next < count; i++) {
                hang(program, statement(0));
            }
            to.set(program, next);
        }

        private void clear() {
            tokens.clear();
            sorts.clear();
            kind.clear();
            from.clear();
            to.clear();
            firstKid.clear();
            lastKid.clear();
            sibling.clear();
            lacksEnd.clear();
            declared.clear();
            declaredKind.clear();
            declaredBy.clear();
            next = 0;
        }

        void blame(int word, int fault) {
            faults.set(word, faults.get(word) | 1 << fault);
        }

        private int make(int nodeKind) {
            kind.add(nodeKind);
            from.add(next);
            to.add(next);
            firstKid.add(NONE);
            lastKid.add(NONE);
            sibling.add(NONE);
            lacksEnd.add(0);
            return kind.size() - 1;
        }

        private void hang(int node, int kid) {
            if (firstKid.get(node) == NONE) {
                firstKid.set(node, kid);
            } else {
                sibling.set(lastKid.get(node), kid);
            }
            lastKid.set(node, kid);
        }

        private void need(int sort, int fault) {
            if (sorts.get(next) == sort) {
                next++;
            } else {
                int word = tokens.get(next);
                faults.set(word, faults.get(word) | 1 << fault);
            }
        }

        /** Marks the next WORD as that which declares a THING, if it is a NAME. */
        private void declare(int thingKind, int node) {
            if (sorts.get(next) == SOME_NAME) {
                declared.add(tokens.get(next));
                declaredKind.add(thingKind);
                declaredBy.add(node);
            }
        }

        private int kindOfStatement() {
            switch (sorts.get(next)) {
                case WORD_LET: return LET;
                case WORD_OUT: return OUT;
                case WORD_IF: return IF;
                case WORD_DO: return DO;
                case WORD_FUN: return FUN;
                case WORD_RET: return RET;
                case SOME_NAME: return sorts.get(next + 1) == '=' ? SET : DOES;
                case SOME_NUMBER:
                case SOME_TEXT:
                case '(':
                case '-':
                case '!': return DOES;
                default: return STRAY;
            }
        }

        private int statement(int blocks) {
            if (sorts.get(next) == '{' && blocks < MOST_BLOCKS) {
                return block(blocks);
            }
            int made = kindOfStatement();
            int node = make(made);
            if (made == STRAY) {
                blame(tokens.get(next), NO_STATEMENT);
            }
            next += made == DOES ? 0 : made == SET ? 2 : 1;
            if (made == LET) {
                declare(VARIABLE, node);
                need(SOME_NAME, NEED_NAME);
                need('=', NEED_EQUAL);
            } else if (made == FUN) {
                parameters(node);
            }
            if (made != FUN && made != STRAY) {
                hang(node, joined(0, 0));
            }
            if (made == IF || made == DO || made == FUN) {
                hang(node, block(blocks));
                if (made == IF && sorts.get(next) == WORD_ELSE) {
                    next++;
                    hang(node, block(blocks));
                }
            } else if (made != STRAY) {
                need(';', NEED_SEMICOLON);
            }
            to.set(node, next);
            return node;
        }

        private void parameters(int node) {
            declare(FUNCTION, node);
            need(SOME_NAME, NEED_NAME);
            need('(', NEED_BRACKET);
            if (sorts.get(next) == SOME_NAME) {
                declare(PARAMETER, node);
                next++;
                for (int i = 0; i < count && sorts.get(next) == ','; i++) {
                    next++;
                    declare(PARAMETER, node);
                    need(SOME_NAME, NEED_NAME);
                }
            }
            need(')', NEED_BRACKET_END);
        }

        private int block(int blocks) {
            int node = make(BLOCK);
            if (sorts.get(next) != '{' || blocks >= MOST_BLOCKS) {
                blame(tokens.get(next), NEED_BLOCK);
                return node;
            }
            next++;
            for (int i = 0; i < count && next < count && sorts.get(next) != '}'; i++) {
                hang(node, statement(blocks + 1));
            }
            lacksEnd.set(node, sorts.get(next) == '}' ? 0 : 1);
            need('}', NEED_BLOCK_END);
            to.set(node, next);
            return node;
        }

        private static boolean joins(int level, int sort) {
            switch (level) {
                case 0: return sort == '<' || sort == SAME_SIGN;
                case 1: return sort == '+' || sort == '-';
                default: return sort == '*';
            }
        }

        /** An EXPR (level 0), a SUM (1), a PRODUCT (2) or a ONE (3). */
        private int joined(int level, int ones) {
            if (level > 2) {
                return one(ones);
            }
            int first = joined(level + 1, ones);
            for (int i = 0; i < count && joins(level, sorts.get(next)); i++) {
                int node = make(BINARY);
                from.set(node, from.get(first));
                next++;
                hang(node, first);
                hang(node, joined(level + 1, ones));
                to.set(node, next);
                first = node;
            }
            return first;
        }

        private int kindOfOne() {
            switch (sorts.get(next)) {
                case '-':
                case '!': return UNARY;
                case SOME_NUMBER: return NUMBER;
                case SOME_TEXT: return TEXT;
                case SOME_NAME: return sorts.get(next + 1) == '(' ? CALL : USE;
                case '(': return BRACKETS;
                default: return MISSING;
            }
        }

        private int one(int ones) {
            int made = ones < MOST_ONES ? kindOfOne() : MISSING;
            int node = make(made);
            if (made == MISSING) {
                blame(tokens.get(next), NO_EXPR);
                return node;
            }
            next += made == CALL ? 2 : 1;
            if (made == UNARY) {
                hang(node, one(ones + 1));
            } else if (made == BRACKETS) {
                hang(node, joined(0, ones + 1));
            } else if (made == CALL && sorts.get(next) != ')') {
                hang(node, joined(0, ones + 1));
                for (int i = 0; i < count && sorts.get(next) == ','; i++) {
                    next++;
                    hang(node, joined(0, ones + 1));
                }
            }
            if (made == CALL || made == BRACKETS) {
                need(')', NEED_BRACKET_END);
            }
            to.set(node, next);
            return node;
        }
    }

    /** The NODES by their numbers. The NODES in a NODE are those from the next one up to its past. */
    private static final class Tree {
        final Row kind = new Row(64);
        final Row from = new Row(64);
        final Row to = new Row(64);
        final Row up = new Row(64);
        final Row depth = new Row(64);
        final Row kids = new Row(64);
        final Row past = new Row(64);
        final Row lacksEnd = new Row(64);
        // by the order in which the parser made them
        final Row number = new Row(64);
        private final Row path = new Row(32);
        private final Row madePath = new Row(32);

        void read(Parser parser) {
            clear();
            number.fill(parser.kind.size(), 0);
            int made = 0;
            for (int i = 0; i < parser.kind.size() && made != NONE; i++) {
                int node = add(parser, made);
                if (parser.firstKid.get(made) != NONE) {
                    path.add(node);
                    madePath.add(made);
                    made = parser.firstKid.get(made);
                } else {
                    past.set(node, kind.size());
                    made = parser.sibling.get(made);
                    while (made == NONE && path.size() > 0) {
                        past.set(path.pop(), kind.size());
                        made = parser.sibling.get(madePath.pop());
                    }
                }
            }
        }

        private void clear() {
            kind.clear();
            from.clear();
            to.clear();
            up.clear();
            depth.clear();
            kids.clear();
            past.clear();
            lacksEnd.clear();
            path.clear();
            madePath.clear();
        }

        private int add(Parser parser, int made) {
            int node = kind.size();
            int parent = path.size() > 0 ? path.last() : NONE;
            kind.add(parser.kind.get(made));
            from.add(parser.from.get(made));
            to.add(parser.to.get(made));
            up.add(parent);
            depth.add(path.size());
            kids.add(0);
            kids.set(parent, kids.get(parent) + 1);
            past.add(node + 1);
            lacksEnd.add(parser.lacksEnd.get(made));
            number.set(made, node);
            return node;
        }

        /** How many WORDS a NODE has, COMMENTS apart. */
        int length(int node) {
            return to.get(node) - from.get(node);
        }

        boolean isScope(int node) {
            int nodeKind = kind.get(node);
            return nodeKind == PROGRAM || nodeKind == BLOCK || nodeKind == FUN;
        }

        /** The innermost NODE of a KIND that a NODE is in. */
        int above(int node, int nodeKind) {
            int n = up.get(node);
            for (int i = 0; i < kind.size() && n != NONE; i++) {
                if (kind.get(n) == nodeKind) {
                    return n;
                }
                n = up.get(n);
            }
            return NONE;
        }

        int countAbove(int node, int nodeKind) {
            int count = 0;
            int n = above(node, nodeKind);
            for (int i = 0; i < kind.size() && n != NONE; i++) {
                count++;
                n = above(n, nodeKind);
            }
            return count;
        }

        int scopeAbove(int node) {
            int n = up.get(node);
            for (int i = 0; i < kind.size() && n != NONE && !isScope(n); i++) {
                n = up.get(n);
            }
            return n;
        }

        /** The STATEMENT that an EXPR is in, the innermost one. */
        int statementOf(int node) {
            int n = node;
            for (int i = 0; i < kind.size() && n > 0 && kind.get(n) > STRAY; i++) {
                n = up.get(n);
            }
            return n;
        }

        boolean hasCall(int first, int behind) {
            for (int n = first; n < behind; n++) {
                if (kind.get(n) == CALL) {
                    return true;
                }
            }
            return false;
        }

        /** Whether the NODES share out all of so many WORDS, in order. */
        boolean isWhole(int tokens) {
            if (from.get(0) != 0 || to.get(0) != tokens) {
                return false;
            }
            for (int n = 0; n < kind.size(); n++) {
                int place = from.get(n);
                int kid = n + 1;
                for (int i = 0; i < kids.get(n); i++) {
                    if (from.get(kid) < place || to.get(kid) < from.get(kid)) {
                        return false;
                    }
                    place = to.get(kid);
                    kid = past.get(kid);
                }
                if (to.get(n) < place || kid != past.get(n)) {
                    return false;
                }
            }
            return true;
        }
    }

    /** THINGS, what each NAME means, and the FAULTS of that. */
    private static final class Names {
        final Row kind = new Row(16);
        final Row word = new Row(16);
        final Row node = new Row(16);
        final Row users = new Row(16);
        final Row scopes = new Row(16);
        // the FUN of which each CALL has the THING anew; 0 is the PROGRAM
        final Row home = new Row(16);
        // by WORD: the THING, and the first WORD of the same name
        final Row meaning = new Row(64);
        final Row sameName = new Row(64);
        private final Row offers = new Row(16);

        void read(Reading reading) {
            findSameNames(reading.words, reading.script);
            meaning.fill(reading.words.count(), NONE);
            listThings(reading.parser, reading.tree);
            for (int n = 0; n < reading.tree.kind.size(); n++) {
                int nodeKind = reading.tree.kind.get(n);
                if (nodeKind == SET || nodeKind == USE || nodeKind == CALL) {
                    findMeaning(reading, n);
                    blameName(reading, n);
                } else if (nodeKind == RET && reading.tree.above(n, FUN) == NONE) {
                    reading.parser.blame(reading.firstWord(n), OUTSIDE);
                }
            }
            for (int i = 0; i < meaning.size(); i++) {
                int thing = meaning.get(i);
                if (thing != NONE) {
                    users.set(thing, users.get(thing) + 1);
                }
            }
        }

        private void findSameNames(Words words, Script script) {
            sameName.fill(words.count(), NONE);
            for (int i = 0; i < words.count(); i++) {
                if (words.sort.get(i) == SOME_NAME) {
                    sameName.set(i, firstAlike(words, script, i));
                }
            }
        }

        private int firstAlike(Words words, Script script, int word) {
            int from = words.start.get(word);
            int to = words.end.get(word);
            for (int i = 0; i < word; i++) {
                if (sameName.get(i) == i && script.isAlike(words.start.get(i), words.end.get(i), from, to)) {
                    return i;
                }
            }
            return word;
        }

        private void listThings(Parser parser, Tree tree) {
            kind.become(parser.declaredKind);
            word.become(parser.declared);
            node.clear();
            users.fill(kind.size(), 0);
            scopes.clear();
            home.clear();
            for (int t = 0; t < kind.size(); t++) {
                int by = tree.number.get(parser.declaredBy.get(t));
                node.add(by);
                meaning.set(word.get(t), t);
                boolean isOfFun = kind.get(t) == PARAMETER;
                int around = isOfFun ? by : tree.scopeAbove(by);
                int count = 0;
                for (int i = 0; i < tree.kind.size() && around != NONE; i++) {
                    count++;
                    around = tree.scopeAbove(around);
                }
                scopes.add(count);
                home.add(isOfFun ? by : Math.max(0, tree.above(by, FUN)));
            }
        }

        private void findMeaning(Reading reading, int user) {
            int token = reading.tree.from.get(user);
            int scope = reading.tree.scopeAbove(user);
            int thing = NONE;
            for (int i = 0; i < reading.tree.kind.size() && scope != NONE && thing == NONE; i++) {
                thing = meantIn(scope, reading.tree, sameName.get(reading.parser.tokens.get(token)), token);
                scope = reading.tree.scopeAbove(scope);
            }
            meaning.set(reading.parser.tokens.get(token), thing);
        }

        private int meantIn(int scope, Tree tree, int name, int token) {
            int variable = NONE;
            int parameter = NONE;
            int function = NONE;
            for (int t = 0; t < kind.size(); t++) {
                if (sameName.get(word.get(t)) == name && standsIn(tree, t, scope)) {
                    int thingKind = kind.get(t);
                    if (thingKind == VARIABLE && tree.to.get(node.get(t)) <= token) {
                        variable = t;
                    } else if (thingKind == PARAMETER) {
                        parameter = t;
                    } else if (thingKind == FUNCTION && function == NONE) {
                        function = t;
                    }
                }
            }
            return variable != NONE ? variable : parameter != NONE ? parameter : function;
        }

        private boolean standsIn(Tree tree, int thing, int scope) {
            int by = node.get(thing);
            return (kind.get(thing) == PARAMETER ? by : tree.up.get(by)) == scope;
        }

        private void blameName(Reading reading, int user) {
            int at = reading.firstWord(user);
            int thing = meaning.get(at);
            boolean isCall = reading.tree.kind.get(user) == CALL;
            boolean isFunction = thing != NONE && kind.get(thing) == FUNCTION;
            if (thing == NONE) {
                reading.parser.blame(at, UNKNOWN);
            } else if (isCall && !isFunction) {
                reading.parser.blame(at, NO_FUNCTION);
            } else if (!isCall && isFunction) {
                reading.parser.blame(at, NO_VARIABLE);
            } else if (isCall && reading.tree.kids.get(user) != parameters(thing)) {
                reading.parser.blame(at, ARGUMENTS);
            }
        }

        int parameters(int function) {
            int count = 0;
            for (int t = 0; t < kind.size(); t++) {
                if (kind.get(t) == PARAMETER && node.get(t) == node.get(function)) {
                    count++;
                }
            }
            return count;
        }

        /** The nth THING whose name could stand at a place. */
        int offered(Reading reading, int place, int nth, boolean isFunction) {
            int from = place;
            while (from > 0 && isLetter(reading.script.sign(from - 1))) {
                from--;
            }
            gatherOffers(reading, reading.words.countAhead(from));
            int left = nth;
            for (int i = 0; i < offers.size(); i++) {
                int thing = offers.get(i);
                if ((kind.get(thing) == FUNCTION) == isFunction && !isOfferedAhead(i)
                        && begins(reading, word.get(thing), from, place)) {
                    if (left == 0) {
                        return thing;
                    }
                    left--;
                }
            }
            return NONE;
        }

        private void gatherOffers(Reading reading, int wordsAhead) {
            offers.clear();
            Tree tree = reading.tree;
            for (int n = tree.kind.size() - 1; n >= 0; n--) {
                if (tree.isScope(n) && reading.isAround(n, wordsAhead)) {
                    for (int t = kind.size() - 1; t >= 0; t--) {
                        if (kind.get(t) == VARIABLE && standsIn(tree, t, n)
                                && reading.lastWord(node.get(t)) < wordsAhead) {
                            offers.add(t);
                        }
                    }
                    for (int t = kind.size() - 1; t >= 0; t--) {
                        if (kind.get(t) == PARAMETER && standsIn(tree, t, n)) {
                            offers.add(t);
                        }
                    }
                    for (int t = 0; t < kind.size(); t++) {
                        if (kind.get(t) == FUNCTION && standsIn(tree, t, n)) {
                            offers.add(t);
                        }
                    }
                }
            }
        }

        private boolean isOfferedAhead(int offer) {
            for (int i = 0; i < offer; i++) {
                if (sameName.get(word.get(offers.get(i))) == sameName.get(word.get(offers.get(offer)))) {
                    return true;
                }
            }
            return false;
        }

        private static boolean begins(Reading reading, int name, int from, int to) {
            int start = reading.words.start.get(name);
            return reading.words.size(name) >= to - from
                && reading.script.isAlike(from, to, start, start + to - from);
        }

        boolean areRight() {
            for (int i = 0; i < meaning.size(); i++) {
                int thing = meaning.get(i);
                if (thing != NONE && sameName.get(i) != sameName.get(word.get(thing))) {
                    return false;
                }
            }
            return true;
        }
    }

    /** A text with all that is read of it. */
    private static final class Reading {
        final Script script = new Script();
        final Words words = new Words();
        final Parser parser = new Parser();
        final Tree tree = new Tree();
        final Names names = new Names();
        final Row faultWords = new Row(16);
        final Row faultKinds = new Row(16);

        void read() {
            words.read(script);
            parser.read(words);
            tree.read(parser);
            names.read(this);
            listFaults();
        }

        private void listFaults() {
            for (int i = 0; i < words.count(); i++) {
                if (isOpenText(i)) {
                    parser.blame(i, OPEN_TEXT);
                }
            }
            if (words.state > 0) {
                parser.blame(words.count(), OPEN_COMMENT);
            }
            faultWords.clear();
            faultKinds.clear();
            for (int i = 0; i < parser.faults.size(); i++) {
                for (int k = 0; k < FAULT_KINDS && parser.faults.get(i) != 0; k++) {
                    if ((parser.faults.get(i) >> k & 1) == 1) {
                        faultWords.add(i);
                        faultKinds.add(k);
                    }
                }
            }
        }

        private boolean isOpenText(int word) {
            return words.sort.get(word) == SOME_TEXT
                && (words.size(word) < 2 || script.sign(words.end.get(word) - 1) != '\'');
        }

        int blanks(int line) {
            int from = words.lineStart.get(line);
            int to = words.lineEnd.get(line);
            int place = from;
            while (place < to && script.sign(place) == ' ') {
                place++;
            }
            return place - from;
        }

        int guess(int word) {
            if (words.sort.get(word) != '{' || words.partner.get(word) != NONE) {
                return NONE;
            }
            int own = words.line.get(word);
            for (int i = own + 1; i < words.lines(); i++) {
                if (words.countIn(i) > 0 && blanks(i) <= blanks(own)) {
                    return i;
                }
            }
            return words.lines();
        }

        int value(int word) {
            int sort = words.sort.get(word);
            if (sort == SOME_TEXT) {
                return words.size(word) - (isOpenText(word) ? 1 : 2);
            }
            if (sort != SOME_NUMBER) {
                return NONE;
            }
            int sum = 0;
            for (int i = words.start.get(word); i < words.end.get(word); i++) {
                sum = (sum * 10 + script.sign(i) - '0') % MOST_VALUE;
            }
            return sum;
        }

        int firstWord(int node) {
            return parser.tokens.get(tree.from.get(node));
        }

        int lastWord(int node) {
            return parser.tokens.get(tree.to.get(node) - 1);
        }

        int firstSign(int node) {
            return words.start.get(firstWord(node));
        }

        /** The place behind the last sign of a NODE that has WORDS. */
        int signEnd(int node) {
            return words.end.get(lastWord(node));
        }

        /** Whether a SCOPE begins ahead of a WORD and does not end ahead of it. */
        boolean isAround(int scope, int word) {
            if (scope == 0) {
                return true;
            }
            int block = tree.kind.get(scope) == FUN ? scope + 1 : scope;
            return tree.length(scope) > 0 && firstWord(scope) < word
                && (tree.lacksEnd.get(block) == 1 || lastWord(scope) >= word);
        }

        boolean areSameWords(int token, int other) {
            int word = parser.tokens.get(token);
            int like = parser.tokens.get(other);
            return script.isAlike(
                words.start.get(word), words.end.get(word), words.start.get(like), words.end.get(like));
        }

        /** The STATEMENTS of the PROGRAM: the signs of their WORDS, and how far those of each go. */
        void writeStatements(Row signs, Row ends) {
            signs.clear();
            ends.clear();
            int kid = 1;
            for (int i = 0; i < tree.kids.get(0); i++) {
                for (int token = tree.from.get(kid); token < tree.to.get(kid); token++) {
                    int word = parser.tokens.get(token);
                    for (int place = words.start.get(word); place < words.end.get(word); place++) {
                        signs.add(script.sign(place));
                    }
                    signs.add(LINE_END);
                }
                ends.add(signs.size());
                kid = tree.past.get(kid);
            }
        }
    }

    // ---- what goes along with the text

    /** CURSORS, MARKS, FOLDS and DIRTY LINES: all that goes along with a REPLACEMENT. */
    private static final class Pins {
        final Row cursors = new Row(MOST_CURSORS);
        final Row marks = new Row(MOST_MARKS);
        final Row foldFrom = new Row(16);
        final Row foldTo = new Row(16);
        final Row dirty = new Row(MOST_LINES);
        private final Row dirtyBefore = new Row(MOST_LINES);
        int readAgain;

        Pins() {
            cursors.add(0);
            marks.fill(MOST_MARKS, NONE);
            dirty.add(0);
        }

        int first() {
            return cursors.get(0);
        }

        /** How many CURSORS are at a PLACE or behind it. */
        int cursorsFrom(int place) {
            int count = 0;
            for (int i = 0; i < cursors.size(); i++) {
                if (cursors.get(i) >= place) {
                    count++;
                }
            }
            return count;
        }

        void set(int place) {
            cursors.clear();
            cursors.add(place);
        }

        boolean isCursor(int place) {
            for (int i = 0; i < cursors.size(); i++) {
                if (cursors.get(i) == place) {
                    return true;
                }
            }
            return false;
        }

        void addCursor(int place) {
            cursors.add(place);
            for (int i = cursors.size() - 1; i > 0 && cursors.get(i - 1) > place; i--) {
                cursors.set(i, cursors.get(i - 1));
                cursors.set(i - 1, place);
            }
        }

        private void mergeCursors() {
            int kept = 1;
            for (int i = 1; i < cursors.size(); i++) {
                if (cursors.get(i) != cursors.get(kept - 1)) {
                    cursors.set(kept, cursors.get(i));
                    kept++;
                }
            }
            cursors.cut(kept);
        }

        void travel(Words words, int size, int where) {
            for (int i = 0; i < cursors.size(); i++) {
                cursors.set(i, goal(words, size, cursors.get(i), where));
            }
            mergeCursors();
        }

        private static int goal(Words words, int size, int place, int where) {
            int line = words.lineOf(place);
            int column = place - words.lineStart.get(line);
            switch (where) {
                case 0: return Math.max(0, place - 1);
                case 1: return Math.min(size, place + 1);
                case 2: return line == 0 ? 0 : columnOf(words, line - 1, column);
                case 3: return line + 1 >= words.lines() ? size : columnOf(words, line + 1, column);
                case 4: return words.lineStart.get(line);
                case 5: return words.lineEnd.get(line);
                case 6: return 0;
                default: return size;
            }
        }

        private static int columnOf(Words words, int line, int column) {
            return Math.min(words.lineStart.get(line) + column, words.lineEnd.get(line));
        }

        void follow(int from, int to, int put) {
            int further = put - (to - from);
            for (int i = 0; i < cursors.size(); i++) {
                int place = cursors.get(i);
                cursors.set(i, place >= to ? place + further : Math.min(place, from));
            }
            mergeCursors();
            for (int i = 0; i < marks.size(); i++) {
                int place = marks.get(i);
                boolean isBehind = place >= to && place > from;
                marks.set(i, isBehind ? place + further : Math.min(place, from));
            }
        }

        void followLines(Reading old, Reading fresh) {
            int oldLines = old.words.lines();
            int lines = fresh.words.lines();
            int least = Math.min(oldLines, lines);
            int ahead = 0;
            while (ahead < least && isSameLine(old, ahead, fresh, ahead)) {
                ahead++;
            }
            int behind = 0;
            while (behind < least - ahead && isSameLine(old, oldLines - 1 - behind, fresh, lines - 1 - behind)) {
                behind++;
            }
            moveFolds(ahead, oldLines - behind, lines - oldLines);
            dirtyBefore.become(dirty);
            dirty.cut(ahead);
            for (int i = ahead; i < lines - behind; i++) {
                dirty.add(1);
                readAgain++;
            }
            boolean isOther = true;
            for (int i = lines - behind; i < lines; i++) {
                int was = i - lines + oldLines;
                isOther = isOther && old.words.lineState.get(was) != fresh.words.lineState.get(i);
                dirty.add(isOther ? 1 : dirtyBefore.get(was));
                readAgain += isOther ? 1 : 0;
            }
        }

        private static boolean isSameLine(Reading old, int line, Reading fresh, int other) {
            int from = old.words.lineStart.get(line);
            int otherFrom = fresh.words.lineStart.get(other);
            int length = old.words.lineEnd.get(line) - from;
            if (length != fresh.words.lineEnd.get(other) - otherFrom) {
                return false;
            }
            for (int i = 0; i < length; i++) {
                if (old.script.sign(from + i) != fresh.script.sign(otherFrom + i)) {
                    return false;
                }
            }
            return true;
        }

        private void moveFolds(int ahead, int behind, int further) {
            int kept = 0;
            for (int i = 0; i < foldFrom.size(); i++) {
                int from = foldFrom.get(i);
                int to = foldTo.get(i);
                if (to < ahead || from >= behind) {
                    int by = to < ahead ? 0 : further;
                    foldFrom.set(kept, from + by);
                    foldTo.set(kept, to + by);
                    kept++;
                }
            }
            foldFrom.cut(kept);
            foldTo.cut(kept);
        }

        void addFold(int from, int to) {
            for (int i = 0; i < foldFrom.size(); i++) {
                if (foldFrom.get(i) == from) {
                    foldTo.set(i, to);
                    return;
                }
            }
            foldFrom.add(from);
            foldTo.add(to);
        }

        int openFolds(int line) {
            int kept = 0;
            for (int i = 0; i < foldFrom.size(); i++) {
                if (foldFrom.get(i) > line || foldTo.get(i) < line) {
                    foldFrom.set(kept, foldFrom.get(i));
                    foldTo.set(kept, foldTo.get(i));
                    kept++;
                }
            }
            int opened = foldFrom.size() - kept;
            foldFrom.cut(kept);
            foldTo.cut(kept);
            return opened;
        }

        /** The later LINE of the FOLD from a LINE. */
        int foldEnd(int line) {
            for (int i = 0; i < foldFrom.size(); i++) {
                if (foldFrom.get(i) == line) {
                    return foldTo.get(i);
                }
            }
            return NONE;
        }

        boolean isHidden(int line) {
            for (int i = 0; i < foldFrom.size(); i++) {
                if (foldFrom.get(i) < line && line <= foldTo.get(i)) {
                    return true;
                }
            }
            return false;
        }

        int hiddenLines() {
            int hidden = 0;
            for (int i = 0; i < dirty.size(); i++) {
                if (isHidden(i)) {
                    hidden++;
                }
            }
            return hidden;
        }

        int dirtyLines() {
            int count = 0;
            for (int i = 0; i < dirty.size(); i++) {
                count += dirty.get(i);
            }
            return count;
        }

        boolean areWithin(int size, int lines) {
            boolean isRight = cursors.size() > 0 && cursors.size() <= MOST_CURSORS && dirty.size() == lines;
            for (int i = 0; i < cursors.size(); i++) {
                int place = cursors.get(i);
                isRight = isRight && place >= 0 && place <= size && (i == 0 || cursors.get(i - 1) < place);
            }
            for (int i = 0; i < marks.size(); i++) {
                isRight = isRight && marks.get(i) >= NONE && marks.get(i) <= size;
            }
            for (int i = 0; i < foldFrom.size(); i++) {
                isRight = isRight && foldFrom.get(i) >= 0 && foldFrom.get(i) < foldTo.get(i) && foldTo.get(i) < lines;
            }
            return isRight;
        }
    }

    /** The STATES: their texts, one behind the other, and of which STATE each is a child. */
    private static final class History {
        private final Row signs = new Row(256);
        private final Row ends = new Row(64);
        private final Row parents = new Row(64);
        int state;

        History() {
            ends.add(0);
            parents.add(NONE);
        }

        int count() {
            return parents.size();
        }

        boolean isFull() {
            return parents.size() >= MOST_STATES;
        }

        int parent() {
            return parents.get(state);
        }

        int children() {
            int count = 0;
            for (int i = 1; i < parents.size(); i++) {
                if (parents.get(i) == state) {
                    count++;
                }
            }
            return count;
        }

        int child(int nth) {
            int left = nth;
            for (int i = 1; i < parents.size(); i++) {
                if (parents.get(i) == state) {
                    if (left == 0) {
                        return i;
                    }
                    left--;
                }
            }
            return NONE;
        }

        /** Makes a new STATE, the last child of that which is now. */
        void keep(Script script) {
            for (int i = 0; i < script.size(); i++) {
                signs.add(script.sign(i));
            }
            ends.add(signs.size());
            parents.add(state);
            state = parents.size() - 1;
        }

        void load(int number, Script script) {
            script.clear();
            for (int i = ends.get(number - 1); i < ends.get(number); i++) {
                script.add(signs.get(i), NONE);
            }
        }

        boolean holds(Script script) {
            int from = ends.get(state - 1);
            if (ends.get(state) - from != script.size()) {
                return false;
            }
            for (int i = 0; i < script.size(); i++) {
                if (signs.get(from + i) != script.sign(i)) {
                    return false;
                }
            }
            return true;
        }
    }

    // ---- running

    /** Runs a text without FAULTS by walking from NODE to NODE, so that no call of its own goes deep. */
    private static final class Runner {
        // far above what 300 STEPS through a text of 500 signs can need
        private static final int MOST_MOVES = 1000000;
        // how the walk comes to a NODE: from ahead, with all in it done, or with its value known
        private static final int INTO = 0;
        private static final int OUT_OF = 1;
        private static final int PAST = 2;

        final Row outs = new Row(64);
        private final Row values = new Row(64);
        // of each CALL whose BLOCK is being run (the first one is the PROGRAM): its FUN, and its NODE
        private final Row frameFun = new Row(MOST_CALLS + 1);
        private final Row frameCall = new Row(MOST_CALLS + 1);
        private final Row slots = new Row(64);
        int steps;
        boolean isCut;
        private boolean isDone;
        private int node;
        private int way;

        /** The text is another one now. */
        void forget() {
            isDone = false;
        }

        void execute(Reading reading) {
            if (isDone) {
                return;
            }
            isDone = true;
            outs.clear();
            values.clear();
            frameFun.clear();
            frameCall.clear();
            steps = 0;
            isCut = false;
            addFrame(reading, 0, 0);
            node = 0;
            way = INTO;
            for (int i = 0; i < MOST_MOVES && node != NONE && !isCut; i++) {
                if (way == INTO) {
                    enter(reading);
                } else if (way == OUT_OF) {
                    leave(reading);
                } else {
                    pass(reading.tree);
                }
            }
        }

        private void addFrame(Reading reading, int fun, int call) {
            frameFun.add(fun);
            frameCall.add(call);
            int things = reading.names.kind.size();
            slots.cut((frameFun.size() - 1) * things);
            for (int i = 0; i < things; i++) {
                slots.add(0);
            }
        }

        private int slotOf(Reading reading, int thing) {
            int home = reading.names.home.get(thing);
            int frame = frameFun.size() - 1;
            while (frame > 0 && frameFun.get(frame) != home) {
                frame--;
            }
            return frame * reading.names.kind.size() + thing;
        }

        private void step() {
            if (steps >= MOST_STEPS) {
                isCut = true;
            } else {
                steps++;
            }
        }

        private void enter(Reading reading) {
            int kind = reading.tree.kind.get(node);
            if (kind == CALL && frameFun.size() > MOST_CALLS) {
                isCut = true;
            } else if (kind == CALL || kind > PROGRAM && kind < STRAY) {
                step();
            }
            if (kind == FUN || reading.tree.kids.get(node) == 0) {
                way = OUT_OF;
            } else {
                node++;
            }
        }

        private void leave(Reading reading) {
            int kind = reading.tree.kind.get(node);
            way = PAST;
            switch (kind) {
                case LET:
                    store(reading, reading.tree.from.get(node) + 1);
                    break;
                case SET:
                    store(reading, reading.tree.from.get(node));
                    break;
                case OUT:
                    outs.add(values.pop());
                    break;
                case DOES:
                    values.pop();
                    break;
                case RET:
                    giveBack(values.pop());
                    break;
                case BINARY:
                    joinValues(reading);
                    break;
                case UNARY:
                    turnValue(reading);
                    break;
                case NUMBER:
                case TEXT:
                    values.add(reading.value(reading.firstWord(node)));
                    break;
                case USE:
                    values.add(slots.get(slotOf(reading, reading.names.meaning.get(reading.firstWord(node)))));
                    break;
                case CALL:
                    beginCall(reading);
                    break;
                default:
                    break;
            }
        }

        private void store(Reading reading, int name) {
            int thing = reading.names.meaning.get(reading.parser.tokens.get(name));
            slots.set(slotOf(reading, thing), values.pop());
        }

        private void joinValues(Reading reading) {
            int right = values.pop();
            int left = values.pop();
            int sign = reading.parser.sorts.get(reading.tree.to.get(node + 1));
            switch (sign) {
                case '+': values.add(left + right); break;
                case '-': values.add(left - right); break;
                case '*': values.add(left * right); break;
                case '<': values.add(left < right ? 1 : 0); break;
                default: values.add(left == right ? 1 : 0); break;
            }
        }

        private void turnValue(Reading reading) {
            int value = values.pop();
            boolean isMinus = reading.parser.sorts.get(reading.tree.from.get(node)) == '-';
            values.add(isMinus ? -value : value == 0 ? 1 : 0);
        }

        private void beginCall(Reading reading) {
            Names names = reading.names;
            int fun = names.node.get(names.meaning.get(reading.firstWord(node)));
            int base = values.size() - reading.tree.kids.get(node);
            addFrame(reading, fun, node);
            int next = base;
            for (int t = 0; t < names.kind.size(); t++) {
                if (names.kind.get(t) == PARAMETER && names.node.get(t) == fun) {
                    slots.set(slotOf(reading, t), values.get(next));
                    next++;
                }
            }
            values.cut(base);
            node = fun + 1;
            way = INTO;
        }

        /** Ends the CALL whose BLOCK is being run. */
        private void giveBack(int value) {
            values.add(value);
            frameFun.pop();
            node = frameCall.pop();
            way = PAST;
        }

        /** Goes on behind a NODE, by the NODE that it is in. */
        private void pass(Tree tree) {
            int up = tree.up.get(node);
            int kind = up == NONE ? PROGRAM : tree.kind.get(up);
            int end = up == NONE ? NONE : tree.past.get(up);
            if (kind == FUN) {
                giveBack(0);
                return;
            }
            int onward = tree.past.get(node);
            boolean isCondition = (kind == IF || kind == DO) && node == up + 1;
            if (isCondition && values.pop() == 0) {
                onward = tree.past.get(onward);
            } else if (kind == IF && !isCondition) {
                onward = end;
            } else if (kind == DO && !isCondition) {
                onward = up + 1;
            }
            boolean isGoingOn = onward < end;
            node = isGoingOn ? onward : up;
            way = isGoingOn ? INTO : OUT_OF;
        }
    }

    // ---- changes

    /** Looks for what can be changed, and drafts the text that would come of it. */
    private static final class Changes {
        // by place of the old text: the WORD of the new one that begins with the sign from there
        private final Row landed = new Row(MOST_SIGNS);

        private void land(Reading old, Reading fresh) {
            landed.fill(old.script.size(), NONE);
            for (int i = 0; i < fresh.words.count(); i++) {
                landed.set(fresh.script.origin(fresh.words.start.get(i)), i);
            }
        }

        /** The first WORD that is there still and means no more the THING that it meant. */
        int firstLost(Reading old, Reading fresh) {
            land(old, fresh);
            for (int i = 0; i < old.words.count(); i++) {
                int thing = old.names.meaning.get(i);
                int word = landed.get(old.words.start.get(i));
                if (thing != NONE && word != NONE) {
                    int meant = fresh.names.meaning.get(word);
                    int declaring = landed.get(old.words.start.get(old.names.word.get(thing)));
                    if (meant == NONE || fresh.names.word.get(meant) != declaring) {
                        return i;
                    }
                }
            }
            return NONE;
        }

        /** Whether the WORDS of a NODE are a NODE of its KIND in the new text, too. */
        boolean isNodeStill(Reading old, Reading fresh, int node) {
            land(old, fresh);
            int word = landed.get(old.firstSign(node));
            for (int n = 0; n < fresh.tree.kind.size(); n++) {
                if (fresh.tree.kind.get(n) == old.tree.kind.get(node) && fresh.firstWord(n) == word
                        && fresh.tree.length(n) == old.tree.length(node)) {
                    return true;
                }
            }
            return false;
        }

        int draftIndent(Reading reading, Script draft, int width) {
            draft.clear();
            int others = 0;
            for (int i = 0; i < reading.words.lines(); i++) {
                int from = reading.words.lineStart.get(i);
                if (i > 0) {
                    draft.add(LINE_END, NONE);
                }
                if (reading.words.lineState.get(i) == 0) {
                    int blanks = width * openAt(reading.words, i);
                    others += blanks == reading.blanks(i) ? 0 : 1;
                    for (int k = 0; k < blanks; k++) {
                        draft.add(' ', NONE);
                    }
                    from += reading.blanks(i);
                }
                draft.copy(reading.script, from, reading.words.lineEnd.get(i));
            }
            return others;
        }

        /** For how many "{" a LINE is set in. */
        private static int openAt(Words words, int line) {
            if (words.countIn(line) == 0) {
                return 0;
            }
            int first = words.lineWord.get(line);
            int open = words.sort.get(first) == '}' && words.partner.get(first) != NONE ? -1 : 0;
            for (int i = 0; i < first; i++) {
                if (words.sort.get(i) == '{' && (words.partner.get(i) == NONE || words.partner.get(i) >= first)) {
                    open++;
                }
            }
            return open;
        }

        void draftRename(Reading reading, Script draft, int thing, int sign) {
            draft.clear();
            int place = 0;
            for (int i = 0; i < reading.words.count(); i++) {
                if (reading.names.meaning.get(i) == thing) {
                    draft.copy(reading.script, place, reading.words.start.get(i));
                    draft.add(sign, reading.words.start.get(i));
                    place = reading.words.end.get(i);
                }
            }
            draft.copy(reading.script, place, reading.script.size());
        }

        private static boolean isPlain(int statement) {
            return statement == LET || statement == SET || statement == OUT || statement == IF
                || statement == RET || statement == DOES;
        }

        /** The EXPR that is meant and may be drawn out. */
        int drawable(Reading reading, int word, boolean isGreat) {
            Tree tree = reading.tree;
            int node = NONE;
            for (int n = 0; n < tree.kind.size(); n++) {
                boolean isExpr = tree.kind.get(n) >= BINARY && tree.kind.get(n) <= BRACKETS;
                if (isExpr && reading.firstWord(n) == word && (node == NONE || !isGreat)) {
                    node = n;
                }
            }
            if (node == NONE) {
                return NONE;
            }
            int statement = tree.statementOf(node);
            boolean isFree = !tree.hasCall(statement, tree.past.get(node));
            return isFree && isPlain(tree.kind.get(statement)) ? node : NONE;
        }

        void draftDraw(Reading reading, Script draft, int node, int name) {
            Script script = reading.script;
            int begin = reading.firstSign(reading.tree.statementOf(node));
            int from = reading.firstSign(node);
            int to = reading.signEnd(node);
            draft.clear();
            draft.copy(script, 0, begin);
            draft.write("let ");
            draft.write(name);
            draft.write(" = ");
            draft.paste(script, from, to);
            draft.write("; ");
            draft.paste(script, begin, from);
            draft.write(name);
            draft.paste(script, to, script.size());
        }

        /** The USE in whose place the EXPR of the LET of a VARIABLE may be put. */
        int usePutIn(Reading reading, int thing) {
            Tree tree = reading.tree;
            int let = reading.names.node.get(thing);
            int behind = tree.past.get(let);
            boolean isLast = behind >= tree.past.get(tree.up.get(let));
            if (reading.names.kind.get(thing) != VARIABLE || reading.names.users.get(thing) != 2
                    || isLast || !isPlain(tree.kind.get(behind)) || tree.hasCall(let, behind)) {
                return NONE;
            }
            for (int n = behind + 1; n < tree.past.get(behind + 1); n++) {
                if (tree.kind.get(n) == USE && reading.names.meaning.get(reading.firstWord(n)) == thing) {
                    return tree.hasCall(behind, n) ? NONE : n;
                }
            }
            return NONE;
        }

        void draftPutIn(Reading reading, Script draft, int let, int use, boolean isInBrackets) {
            Script script = reading.script;
            draft.clear();
            draft.copy(script, 0, reading.firstSign(let));
            draft.paste(script, reading.firstSign(reading.tree.past.get(let)), reading.firstSign(use));
            draft.write(isInBrackets ? "(" : "");
            draft.paste(script, reading.firstSign(let + 1), reading.signEnd(let + 1));
            draft.write(isInBrackets ? ")" : "");
            draft.paste(script, reading.signEnd(use), script.size());
        }

        /** The IF with else whose first WORD this is. */
        int turnable(Reading reading, int word) {
            for (int n = 0; n < reading.tree.kind.size(); n++) {
                if (reading.tree.kind.get(n) == IF && reading.tree.kids.get(n) == 3 && reading.firstWord(n) == word) {
                    return n;
                }
            }
            return NONE;
        }

        void draftTurn(Reading reading, Script draft, int node) {
            Script script = reading.script;
            Tree tree = reading.tree;
            int expr = node + 1;
            int first = tree.past.get(expr);
            int second = tree.past.get(first);
            int kind = tree.kind.get(expr);
            boolean isTurned = kind == UNARY && reading.parser.sorts.get(tree.from.get(expr)) == '!';
            draft.clear();
            draft.copy(script, 0, reading.firstSign(node));
            draft.write("if ");
            draft.write(isTurned ? "" : kind == BINARY ? "!(" : "!");
            draft.paste(script, reading.firstSign(isTurned ? expr + 1 : expr), reading.signEnd(expr));
            draft.write(kind == BINARY ? ")" : "");
            draft.write(" ");
            draft.paste(script, reading.firstSign(second), reading.signEnd(second));
            draft.write(" else ");
            draft.paste(script, reading.firstSign(first), reading.signEnd(first));
            draft.paste(script, reading.signEnd(node), script.size());
        }

        int unusedLet(Reading reading) {
            for (int t = 0; t < reading.names.kind.size(); t++) {
                int let = reading.names.node.get(t);
                if (reading.names.kind.get(t) == VARIABLE && reading.names.users.get(t) == 1
                        && !reading.tree.hasCall(let, reading.tree.past.get(let))) {
                    return let;
                }
            }
            return NONE;
        }

        void draftWithout(Reading reading, Script draft, int node) {
            draft.clear();
            draft.copy(reading.script, 0, reading.firstSign(node));
            draft.paste(reading.script, reading.signEnd(node), reading.script.size());
        }

        int shaped(Reading reading, int shape, int nth) {
            int left = nth;
            for (int n = 0; n < reading.tree.kind.size(); n++) {
                if (hasShape(reading, n, shape)) {
                    if (left == 0) {
                        return n;
                    }
                    left--;
                }
            }
            return NONE;
        }

        private static boolean hasShape(Reading reading, int node, int shape) {
            switch (reading.tree.kind.get(node)) {
                case BINARY:
                    return isShapedBinary(reading, node, shape);
                case UNARY:
                    return shape == 5 && isTwiceMinus(reading, node);
                case BRACKETS:
                    return shape == 6 && isNeedless(reading.tree, node);
                default:
                    return false;
            }
        }

        private static boolean isShapedBinary(Reading reading, int node, int shape) {
            Tree tree = reading.tree;
            int left = node + 1;
            int right = tree.past.get(left);
            int sign = reading.parser.sorts.get(tree.to.get(left));
            boolean isLeft = tree.length(left) > 0;
            boolean isRight = tree.length(right) > 0;
            switch (shape) {
                case 0: return sign == '+' && isLeft && isNumber(reading, right, '0');
                case 1: return sign == '+' && isRight && isNumber(reading, left, '0');
                case 2: return sign == '*' && isLeft && isNumber(reading, right, '1');
                case 3: return sign == '*' && isRight && isNumber(reading, left, '1');
                case 4: return sign == '-' && isLeft && isNumber(reading, right, '0');
                case 7: return sign == '-' && areTwins(reading, left, right);
                case 8: return sign == '*' && isLeft && isNumber(reading, right, '0')
                    && !tree.hasCall(left, right);
                case 9: return sign == SAME_SIGN && areTwins(reading, left, right);
                default: return false;
            }
        }

        private static boolean isNumber(Reading reading, int node, int sign) {
            int word = reading.firstWord(node);
            return reading.tree.kind.get(node) == NUMBER && reading.words.size(word) == 1
                && reading.script.sign(reading.words.start.get(word)) == sign;
        }

        private static boolean areTwins(Reading reading, int left, int right) {
            Tree tree = reading.tree;
            if (tree.length(left) < 1 || tree.length(left) != tree.length(right) || tree.hasCall(left, right)) {
                return false;
            }
            for (int i = 0; i < tree.length(left); i++) {
                if (!reading.areSameWords(tree.from.get(left) + i, tree.from.get(right) + i)) {
                    return false;
                }
            }
            return true;
        }

        private static boolean isTwiceMinus(Reading reading, int node) {
            Tree tree = reading.tree;
            return tree.kind.get(node + 1) == UNARY && tree.length(node + 2) > 0
                && reading.parser.sorts.get(tree.from.get(node)) == '-'
                && reading.parser.sorts.get(tree.from.get(node + 1)) == '-';
        }

        private static boolean isNeedless(Tree tree, int node) {
            int kind = tree.kind.get(node + 1);
            return kind >= NUMBER && kind <= BRACKETS;
        }

        void draftRefine(Reading reading, Script draft, int node, int shape) {
            Script script = reading.script;
            int kept = shape == 5 ? node + 2 : node + 1;
            if (shape == 1 || shape == 3) {
                kept = reading.tree.past.get(node + 1);
            }
            draft.clear();
            draft.copy(script, 0, reading.firstSign(node));
            if (shape > 6) {
                draft.write(shape == 9 ? "1" : "0");
            } else {
                draft.paste(script, reading.firstSign(kept), reading.signEnd(kept));
            }
            draft.paste(script, reading.signEnd(node), script.size());
        }
    }
}
