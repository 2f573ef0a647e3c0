/** Promise 1: a new object has no heads, and nothing is seen. */
final class NewTest {
    public static void main(String[] args) {
        Check c = new Check("NewTest");
        HeadReckons x = new HeadReckons();
        for (int what = 0; what <= 6; what++) {
            c.due("count(" + what + ")", x.count(what), 0);
        }
        c.due("of(0, 0)", x.of(0, 0), -1);
        c.due("way(1, 70008, 0)", x.way(1, 70008, 0), -1);
        c.due("seen(0, 0)", x.seen(0, 0), -2000000000);
        c.due("untell()", x.untell(), 0);
        c.due("undo()", x.undo(), -5);
        c.due("redo()", x.redo(), -5);
        c.due("trace(0)", x.trace(0), -1);
        c.due("act(0, 0, 5)", x.act(0, 0, 5), 0);
        for (int shelf = 0; shelf <= 5; shelf++) {
            c.due("put on shelf " + shelf, x.put(shelf, 0, 1L), -11);
        }
        Check.head(x, "l5a5h5t9c5");
        c.due("without a text LEFT is chosen", x.chosen(0, 70008), 1);
        HeadReckons other = new HeadReckons();
        c.due("objects share nothing", other.count(0), 0);
        c.end();
    }
}
