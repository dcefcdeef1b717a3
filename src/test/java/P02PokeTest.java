/** Promise 2: poke. */
final class P02PokeTest {
    public static void main(String[] args) {
        int[] addresses = {0, 1, 1023, 1024, 2047, 2048, 4095, 4096, 65535, 65536, -1, -4096,
            Integer.MAX_VALUE, Integer.MIN_VALUE};
        int[] values = {0, 1, 127, 128, 255, 256, 511, -1, -128, 0x1234, Integer.MAX_VALUE, Integer.MIN_VALUE};
        for (int address : addresses) {
            HomeComputer x = new HomeComputer();
            int place = Math.floorMod(address, 4096);
            for (int value : values) {
                x.poke(address, value);
                Check.same("the byte at " + address, x.peek(place), Math.floorMod(value, 256));
            }
            x.poke(address, 77);
            Check.same("the byte before " + address, x.peek(place + 4095), 0);
            Check.same("the byte behind " + address, x.peek(place + 1), 0);
        }
        takesNoTime();
        Check.end();
    }

    private static void takesNoTime() {
        HomeComputer x = new HomeComputer();
        x.poke(1024, 1);
        Check.same("look(1) after poke", x.look(1), 0);
    }
}
