/**
 * Flags as four signs, for N, Z, V and C: 1 and 0, and - for one that counts for nothing before
 * an instruction, or stays as it was behind it.
 */
final class Signs {
    private Signs() {
    }

    static boolean fit(String signs, int flags) {
        return due(signs, flags) == flags;
    }

    static int due(String signs, int before) {
        int flags = 0;
        for (int i = 0; i < 4; i++) {
            int bit = 8 >> i;
            boolean on = signs.charAt(i) == '-' ? (before & bit) != 0 : signs.charAt(i) == '1';
            flags |= on ? bit : 0;
        }
        return flags;
    }
}
