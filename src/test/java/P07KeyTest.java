/** Promise 7: key, as the even ports tell it. */
final class P07KeyTest {
    public static void main(String[] args) {
        for (int row = 0; row < 8; row++) {
            for (int key = 0; key < 5; key++) {
                oneKey(row, key);
            }
        }
        severalKeys();
        refusals();
        Check.end();
    }

    /** What the port with this high byte reads, the tape's level being low. */
    private static int rows(Lab lab, int high) {
        lab.put(Lab.HOME, 219, 254).set(Lab.PC, Lab.HOME).set(Lab.A, high).step();
        return lab.get(Lab.A);
    }

    private static void oneKey(int row, int key) {
        Lab lab = Lab.with();
        String name = "key " + key + " of row " + row;
        Check.yes(name + " goes down", lab.computer.key(row, key, true));
        for (int looked = 0; looked < 8; looked++) {
            int due = looked == row ? 191 - (1 << key) : 191;
            Check.same(name + ", row " + looked + " alone", rows(lab, 255 - (1 << looked)), due);
            due = looked == row ? 191 : 191 - (1 << key);
            Check.same(name + ", all rows but " + looked, rows(lab, 1 << looked), due);
        }
        Check.same(name + ", no row", rows(lab, 255), 191);
        Check.yes(name + " goes down again", lab.computer.key(row, key, true));
        Check.same(name + ", all rows", rows(lab, 0), 191 - (1 << key));
        Check.yes(name + " goes up", lab.computer.key(row, key, false));
        Check.yes(name + " goes up again", lab.computer.key(row, key, false));
        Check.same(name + " is up", rows(lab, 0), 191);
    }

    private static void severalKeys() {
        Lab lab = Lab.with();
        lab.computer.key(0, 0, true);
        lab.computer.key(0, 4, true);
        lab.computer.key(3, 2, true);
        lab.computer.key(7, 4, true);
        Check.same("row 0", rows(lab, 254), 191 - 17);
        Check.same("row 3", rows(lab, 247), 191 - 4);
        Check.same("rows 0 and 3", rows(lab, 246), 191 - 21);
        Check.same("rows 3 and 7", rows(lab, 119), 191 - 20);
        lab.computer.key(0, 4, false);
        Check.same("rows 0 and 7, one key up in one of them", rows(lab, 126), 191 - 17);
        lab.computer.key(7, 4, false);
        Check.same("all rows", rows(lab, 0), 191 - 5);
    }

    private static void refusals() {
        int[][] none = {{-1, 0}, {8, 0}, {0, -1}, {0, 5}, {8, 5}, {-1, -1}, {32, 0}, {0, 32},
            {Integer.MAX_VALUE, 0}, {Integer.MIN_VALUE, 0}, {0, Integer.MAX_VALUE}, {0, Integer.MIN_VALUE}};
        for (int[] pair : none) {
            Lab lab = Lab.with();
            lab.computer.key(2, 3, true);
            Check.no("key(" + pair[0] + ", " + pair[1] + ", true)", lab.computer.key(pair[0], pair[1], true));
            Check.same("all rows after a refusal", rows(lab, 0), 191 - 8);
            Check.no("key(" + pair[0] + ", " + pair[1] + ", false)", lab.computer.key(pair[0], pair[1], false));
            Check.same("all rows after a refusal", rows(lab, 0), 191 - 8);
        }
    }
}
