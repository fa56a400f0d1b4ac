/** The example of README.md: the answers that it tells are right. */
final class ReadmeTest {
    public static void main(String[] args) {
        Check check = new Check();
        DeepStacks x = new DeepStacks();
        int count = x.expression(1, 0, 0, 0);
        int product = x.expression(1, 1, 0, 0);
        int one = x.expression(0, 1, 0, 0);
        int less = x.expression(3, count, one, 0);
        int more = x.expression(4, product, count, 0);
        int again = x.expression(8, 0, less, more);
        x.body(0, x.expression(7, count, again, product));
        check.due("run(0, 5, 1)", x.run(0, 5, 1), 0);
        check.due("number(0, 0)", x.number(0L, 0), 120);
        check.due("told(2)", x.told(2), 1);
        check.end();
    }
}
