/** Promise 4: peek. */
final class P04PeekTest {
    public static void main(String[] args) {
        HomeComputer x = new HomeComputer();
        for (int k = 0; k < 16; k++) {
            x.poke(k * 273, 255 - k);
        }
        for (int k = 0; k < 16; k++) {
            int place = k * 273;
            Check.same("peek(" + place + ")", x.peek(place), 255 - k);
            Check.same("the same, 12 bits higher", x.peek(place + 4096), 255 - k);
            Check.same("the same, from below", x.peek(place - 4096), 255 - k);
            Check.same("the same, beyond 16 bits", x.peek(place + 65536 * 100), 255 - k);
        }
        x.poke(4095, 200);
        Check.same("peek(-1)", x.peek(-1), 200);
        Check.same("peek of the highest int", x.peek(Integer.MAX_VALUE), 200);
        Check.same("peek of the lowest int", x.peek(Integer.MIN_VALUE), 255);
        x.poke(1024, 9);
        Check.same("peek(1024)", x.peek(1024), 9);
        Check.same("peek takes no time", x.look(1), 0);
        Check.end();
    }
}
