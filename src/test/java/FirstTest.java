/** A first look at every kind of call. */
public final class FirstTest {
    public static void main(String[] args) {
        Bench b = new Bench("FirstTest");
        b.line("1+2", ": 3");
        b.line("2 3$i.6", "2 3: 0 1 2 3 4 5");
        b.end();
    }
}
