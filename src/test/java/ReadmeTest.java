/** The calls that README.md shows, with the answers that it tells. */
public final class ReadmeTest {
    private static final Bench b = new Bench("ReadmeTest");

    public static void main(String[] args) {
        feeds();
        lines();
        machine();
        b.end();
    }

    private static void feeds() {
        ShapeTongue t = b.tongue;
        b.due("feed", 6, t.feed(6, 0x362e69202f2bL));
        b.due("line", 0, t.line());
        b.due("atom(0)", 15L, t.atom(0));
    }

    private static void lines() {
        ShapeTongue t = b.tongue;
        b.line("mean=.+/ % #", "verb");
        b.due("look(1)", 2, t.look(1));
        b.line("mean 3 4 5 6", ": 4");
        b.due("look(1)", 1, t.look(1));
        b.line("2 3$i.6", "2 3: 0 1 2 3 4 5");
        b.due("look(2)", 2, t.look(2));
        b.due("look(3)", 6, t.look(3));
        b.due("axis(1)", 3, t.axis(1));
        b.line("1%0", "error 4");
        b.due("name()", 2, b.name("mean"));
        b.machineLine("2147483647+1", "error 5");
        b.line("+/\"1(2 3$i.6)", "2: 3 12");
        b.line("+/\"1 i.6", "verb");
        b.due("forget()", 1, t.forget());
    }

    private static void machine() {
        ShapeTongue t = b.tongue;
        t.vector(4);
        t.setRegister(5, 1000);
        t.setWord(1000, 7);
        String program = "lw x6, 0(x5)\nvsetivli x1, 4, e32, m1\nvid.v v2\nvadd.vx v2, v2, x6\nebreak\n";
        b.due("assemble()", 5, b.assemble(program));
        b.due("steps(100)", 5, t.steps(100));
        b.due("look(6)", 1, t.look(6));
        b.due("register(6)", 7, t.register(6));
        b.due("element(2, 3)", 10, t.element(2, 3));
        t.jump(0);
        b.due("look(6) behind jump", 0, t.look(6));
        b.due("assemble() of what is none", -2, b.assemble("nop\nfly x1"));
        b.due("look(9)", 2, t.look(9));
    }
}
