/** A first look: a text is typed and run. */
public final class FirstTest {
    public static void main(String[] args) {
        Bracketdesk desk = new Bracketdesk();
        desk.say(15);
        desk.say(6);
        desk.say(14);
        if (!desk.run().equals("1") || !desk.isSound()) {
            System.out.println("wrong: " + desk.run());
            System.exit(1);
        }
    }
}
