/** Promise 3: load. */
final class P03LoadTest {
    public static void main(String[] args) {
        int[] bytes = {0x81, 0x92, 0xA3, 0xB4};
        for (int address : new int[] {0, 1022, 2046, 3000, 4093, 4095, 4096, -2, 65535, Integer.MAX_VALUE}) {
            for (int n = 1; n <= 4; n++) {
                Lab lab = new Lab();
                for (int k = -1; k <= 4; k++) {
                    lab.put(address + k, 7);
                }
                Check.yes("load of " + n, lab.computer.load(address, 0x8192A3B4, n));
                for (int k = -1; k <= 4; k++) {
                    int due = k >= 0 && k < n ? bytes[k] : 7;
                    Check.same("byte " + k + " of " + n + " from " + address, lab.peek(address + k), due);
                }
            }
        }
        for (int n : new int[] {0, -1, 5, 6, 8, 100, Integer.MAX_VALUE, Integer.MIN_VALUE}) {
            Lab lab = new Lab();
            String before = lab.state();
            Check.no("load of " + n, lab.computer.load(0, -1, n));
            Check.same("state after load of " + n, lab.state(), before);
            Check.same("peek after load of " + n, lab.peek(1), 0);
        }
        Check.end();
    }
}
