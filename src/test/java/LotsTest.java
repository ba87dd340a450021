public final class LotsTest {
    public static void main(String[] args) {
        TeaCourt court = new TeaCourt();
        Check.due("count(0)", 0, court.count(0));
        Check.end();
    }
}
