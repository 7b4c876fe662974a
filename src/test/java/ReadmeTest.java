/** The example of README.md, answer by answer. */
public final class ReadmeTest {
    public static void main(String[] args) {
        Checks checks = new Checks();
        ChartHouse house = new ChartHouse();
        tape(house, "process a(1) { let v = 0; start { next s; } state s { on go(v) { send back(v + 1) to out; } } }");
        checks.due("system", 1, () -> house.system());
        checks.due("walk", 1, () -> house.walk(0, 0, 0));
        checks.due("act", 0, () -> house.act(0));
        checks.due("turn", 1, () -> house.turn(0));
        tape(house, "go");
        checks.due("outside", 1, () -> house.outside(0, 7));
        checks.due("run", 1, () -> house.run(100));
        tape(house, "v");
        checks.due("variable", 7, () -> house.variable(0));
        checks.due("count", 4, () -> house.count(6));
        checks.due("event, kind", 0, () -> house.event(3, 0));
        checks.due("event, value", 8, () -> house.event(3, 2));
        checks.due("event, name", 4, () -> house.event(3, 3));
        checks.due("word", 0x6261636b00000000L, () -> house.word(0));
        tape(house, "out > a : go; a > out : back;");
        checks.due("chart", 2, () -> house.chart());
        checks.same("fits", "true", "" + house.fits());
        checks.due("races", 0, () -> house.races());
        checks.finish();
    }

    // As it stands in README.md, not the one of Checks.
    private static void tape(ChartHouse house, String text) {
        for (int i = 0; i < text.length(); i += 20) {
            int[] five = new int[5];
            for (int k = 0; k < 20; k++) {
                int c = i + k < text.length() ? text.charAt(i + k) : 0;
                five[k / 4] = five[k / 4] << 8 | c;
            }
            house.feed(five[0], five[1], five[2], five[3], five[4]);
        }
        house.end(text.length());
    }
}
