/** Makes calls that are written as texts: the method's name, and its arguments behind blanks. */
final class Caller {
    Bracketdesk desk = new Bracketdesk();

    /** The answer as a text; of an exception its name behind "throws ". */
    String call(String line) {
        String[] parts = line.split(" ");
        try {
            return parts.length == 1 ? plain(parts[0]) : withArguments(parts);
        } catch (RuntimeException e) {
            return "throws " + e.getClass().getName();
        }
    }

    private static int number(String[] parts, int i) {
        return Integer.parseInt(parts[i]);
    }

    private String plain(String name) {
        switch (name) {
            case "new":
                desk = new Bracketdesk();
                return "";
            case "erase": return "" + desk.erase();
            case "lone": return "" + desk.lone();
            case "leap": return "" + desk.leap();
            case "undo": return "" + desk.undo();
            case "prune": return "" + desk.prune();
            case "save": return "" + desk.save();
            case "drawn": return "" + desk.drawn();
            case "all": return desk.all();
            case "outline": return desk.outline();
            case "run": return desk.run();
            case "cursors": return desk.cursors();
            case "changed": return "" + desk.changed();
            case "knock": return "" + desk.knock();
            case "isSound": return "" + desk.isSound();
            case "digest": return "" + desk.digest();
            default: throw new Error("no such call: " + name);
        }
    }

    private String withArguments(String[] parts) {
        boolean isOn = parts[parts.length - 1].equals("true");
        switch (parts[0]) {
            case "record": return "" + desk.record(isOn);
            case "draw": return "" + desk.draw(number(parts, 1), number(parts, 2), isOn);
            case "complete": return desk.complete(number(parts, 1), isOn);
            default: return parts.length == 2
                ? withNumber(parts[0], number(parts, 1))
                : withNumbers(parts[0], number(parts, 1), number(parts, 2));
        }
    }

    private String withNumber(String name, int a) {
        switch (name) {
            case "key": return "" + desk.key(a);
            case "say": return "" + desk.say(a);
            case "go": return "" + desk.go(a);
            case "play": return "" + desk.play(a);
            case "mark": return "" + desk.mark(a);
            case "jump": return "" + desk.jump(a);
            case "redo": return "" + desk.redo(a);
            case "foldBlock": return "" + desk.foldBlock(a);
            case "open": return "" + desk.open(a);
            case "indent": return "" + desk.indent(a);
            case "putIn": return "" + desk.putIn(a);
            case "turn": return "" + desk.turn(a);
            case "refine": return "" + desk.refine(a);
            case "text": return desk.text(a);
            case "word": return desk.word(a);
            case "uses": return desk.uses(a);
            case "ran": return "" + desk.ran(a);
            case "desk": return "" + desk.desk(a);
            default: throw new Error("no such call: " + name);
        }
    }

    private String withNumbers(String name, int a, int b) {
        switch (name) {
            case "at": return "" + desk.at(a, b);
            case "also": return "" + desk.also(a, b);
            case "fold": return "" + desk.fold(a, b);
            case "rename": return "" + desk.rename(a, b);
            case "ofLine": return "" + desk.ofLine(a, b);
            case "ofWord": return "" + desk.ofWord(a, b);
            case "node": return "" + desk.node(a, b);
            case "thing": return "" + desk.thing(a, b);
            case "fault": return "" + desk.fault(a, b);
            case "find": return "" + desk.find(a, b);
            default: throw new Error("no such call: " + name);
        }
    }
}
