/** The calls that README.md shows under Use, with the answers that it tells. */
public final class UseTest {
    private UseTest() {
    }

    public static void main(String[] args) {
        Due.by("README.md: Use");
        WideNet net = new WideNet(7);
        Due.is("join(0)", net.join(0), 1);
        Due.is("hear(0, 1)", net.hear(0, 1), true);
        Due.is("tick(1)", net.tick(1), 1);
        Due.is("reach(1)", net.reach(1), true);
        Due.is("state(0)", net.state(0), 2);
        Due.is("lose(0)", net.lose(0), true);
        Due.is("queue(0, 99, 1)", net.queue(0, 99, 1), 1);
        Due.is("send(0, 1027, 2, true, false)", net.send(0, 1027, 2, true, false), 0);
        Due.is("hear(0, 0)", net.hear(0, 0), true);
        Due.is("payload(0, true, 0)", net.payload(0, true, 0), 1027);
        Due.is("tick(1)", net.tick(1), 2);
        Due.is("reach(1)", net.reach(1), true);
        Due.is("tally(0, 0)", net.tally(0, 0), 1);
        Due.is("payload(0, false, 0)", net.payload(0, false, 0), 99);
        Due.end();
    }
}
