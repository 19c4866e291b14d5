/** Promise 1 alone, so far. */
final class FirstTest {
    public static void main(String[] args) {
        GoldenHeaps heaps = new GoldenHeaps();
        Check.due("parts", Check.parts(heaps), "plain:5,8");
        Check.due("rule", Check.rule(heaps, 0), "rule plain slack 1 most 40");
        Check.finish("FirstTest");
    }
}
