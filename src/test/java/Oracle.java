import java.util.ArrayList;
import java.util.List;
import java.util.Set;
import java.util.TreeSet;

/**
 * The document's machine a second time, built another way: bytes, numbers with signs and their
 * ranges, faults as exceptions, and a copy of the registers to go back to.
 */
final class Oracle {
    private static final class Fault extends RuntimeException {
        private static final long serialVersionUID = 1L;
        private final int ending;

        Fault(int ending) {
            super(null, null, false, false);
            this.ending = ending;
        }
    }

    final byte[] memory = new byte[4096];
    int[] r = new int[8];
    boolean n;
    boolean z;
    boolean v;
    boolean c;
    int steps;
    final List<Integer> outputs = new ArrayList<>();
    final Set<Integer> written = new TreeSet<>();

    void poke(int place, int word) {
        memory[place] = (byte) word;
        memory[place + 1] = (byte) (word >> 8);
    }

    int word(int place) {
        return (memory[place] & 255) + 256 * (memory[place + 1] & 255);
    }

    int flags() {
        return Integer.parseInt("" + bit(n) + bit(z) + bit(v) + bit(c), 2);
    }

    void flag(int bits) {
        n = bits / 8 % 2 == 1;
        z = bits / 4 % 2 == 1;
        v = bits / 2 % 2 == 1;
        c = bits % 2 == 1;
    }

    int run(int most) {
        for (steps = 0; steps < most; steps++) {
            int[] before = r.clone();
            int flagsBefore = flags();
            try {
                if (instruction()) {
                    steps++;
                    return 1;
                }
            } catch (Fault f) {
                r = before;
                flag(flagsBefore);
                return f.ending;
            }
        }
        return 0;
    }

    private static int bit(boolean b) {
        return b ? 1 : 0;
    }

    private static int round(long number) {
        return (int) Math.floorMod(number, 65536L);
    }

    private static int round(long number, boolean bytes) {
        return (int) Math.floorMod(number, bytes ? 256L : 65536L);
    }

    private static int least(boolean bytes) {
        return bytes ? -128 : -32768;
    }

    private static int number(int value, boolean bytes) {
        return bytes ? (byte) value : (short) value;
    }

    private static boolean outside(long number, boolean bytes) {
        return number < least(bytes) || number > -1 - least(bytes);
    }

    private int read(int where, boolean bytes) {
        if (where < 0) {
            return round(r[-1 - where], bytes);
        }
        if (!bytes && where % 2 == 1) {
            throw new Fault(2);
        }
        if (where > 4095) {
            throw new Fault(3);
        }
        return bytes ? memory[where] & 255 : word(where);
    }

    private void write(int where, boolean bytes, int value) {
        read(where, bytes);
        if (where < 0) {
            int k = -1 - where;
            r[k] = bytes ? r[k] - r[k] % 256 + value : value;
            return;
        }
        written.add(where - where % 2);
        memory[where] = (byte) value;
        if (!bytes) {
            memory[where + 1] = (byte) (value / 256);
        }
        if (where == 4094 && outputs.size() < 400) {
            outputs.add(value);
        }
    }

    private int next() {
        int word = read(r[7], false);
        r[7] = round(r[7] + 2);
        return word;
    }

    /** A register is told as -1 less its number. */
    private int where(int six, boolean bytes) {
        int way = six / 8;
        int k = six % 8;
        if (way == 0) {
            return -1 - k;
        }
        int place;
        int far = bytes && k < 6 && (way == 2 || way == 4) ? 1 : 2;
        if (way >= 6) {
            int index = next();
            place = round(index + r[k]);
        } else if (way >= 4) {
            r[k] = round(r[k] - far);
            place = r[k];
        } else {
            place = r[k];
            if (way >= 2) {
                r[k] = round(r[k] + far);
            }
        }
        return way >= 3 && way % 2 == 1 ? read(place, false) : place;
    }

    private void nz(long number) {
        n = number < 0;
        z = number == 0;
    }

    /** Whether it was HALT. */
    private boolean instruction() {
        int code = next();
        if (code == 0) {
            return true;
        }
        String digits = String.format("%06o", code);
        boolean high = digits.charAt(0) == '1';
        char kind = digits.charAt(1);
        if (kind >= '1' && kind <= '6') {
            two(kind, high, code / 64 % 64, code % 64);
        } else if (kind == '7') {
            seven(high, digits.charAt(2), code / 64 % 8, code % 64);
        } else if (digits.substring(2, 4).compareTo("50") >= 0 && digits.substring(2, 4).compareTo("63") <= 0) {
            one(digits.substring(2, 4), high, code % 64);
        } else if (digits.charAt(2) < '4' && (high || code >= 0400)) {
            if (goes(high, code / 256 % 8)) {
                r[7] = round(r[7] + 2 * (byte) code);
            }
        } else if (high) {
            throw new Fault(4);
        } else {
            rest(digits, code);
        }
        return false;
    }

    private void two(char kind, boolean high, int six, int sixSecond) {
        boolean bytes = high && kind != '6';
        int s = read(where(six, bytes), bytes);
        int at = where(sixSecond, bytes);
        int d = read(at, bytes);
        int result;
        long exact;
        switch (kind) {
            case '1': result = s; break;
            case '2':
                exact = (long) number(s, bytes) - number(d, bytes);
                v = outside(exact, bytes);
                c = s < d;
                nz(number(round(exact, bytes), bytes));
                return;
            case '3': result = s & d; break;
            case '4': result = d - (d & s); break;
            case '5': result = s + d - (s & d); break;
            default:
                exact = (long) number(d, false) + (high ? -number(s, false) : number(s, false));
                v = outside(exact, false);
                c = high ? d < s : s + d >= 65536;
                nz((short) exact);
                write(at, false, round(exact));
                return;
        }
        v = false;
        nz(number(result, bytes));
        if (kind == '1' && bytes && at < 0) {
            r[-1 - at] = round((byte) result);
        } else if (kind != '3') {
            write(at, bytes, result);
        }
    }

    private void one(String head, boolean bytes, int six) {
        int at = where(six, bytes);
        int x = read(at, bytes);
        int signed = number(x, bytes);
        int top = bytes ? 128 : 32768;
        long result;
        boolean carry = c;
        switch (head) {
            case "50": result = 0; v = false; c = false; break;
            case "51": result = -1L - signed; v = false; c = true; break;
            case "52": result = signed + 1L; v = outside(result, bytes); break;
            case "53": result = signed - 1L; v = outside(result, bytes); break;
            case "54": result = -signed; v = outside(result, bytes); c = signed != 0; break;
            case "55": result = signed + bit(c); v = outside(result, bytes); c = x + bit(c) > 2 * top - 1; break;
            case "56": result = signed - bit(c); v = outside(result, bytes); c = x - bit(c) < 0; break;
            case "57": result = signed; v = false; c = false; break;
            case "60": result = x / 2 + bit(carry) * top; c = x % 2 == 1; break;
            case "61": result = 2L * x + bit(carry); c = signed < 0; break;
            case "62": result = Math.floorDiv(signed, 2); c = x % 2 == 1; break;
            default: result = 2L * x; c = signed < 0; break;
        }
        int put = round(result, bytes);
        nz(number(put, bytes));
        if (head.charAt(0) == '6') {
            v = n ^ c;
        }
        if (!head.equals("57")) {
            write(at, bytes, put);
        }
    }

    private boolean goes(boolean high, int which) {
        switch (which + (high ? 8 : 0)) {
            case 1: return true;
            case 2: return !z;
            case 3: return z;
            case 4: return n == v;
            case 5: return n != v;
            case 6: return !z && n == v;
            case 7: return z || n != v;
            case 8: return !n;
            case 9: return n;
            case 10: return !c && !z;
            case 11: return c || z;
            case 12: return !v;
            case 13: return v;
            case 14: return !c;
            default: return c;
        }
    }

    private void seven(boolean high, char kind, int k, int six) {
        if (high || kind == '3' || kind == '5' || kind == '6' || kind == '1' && k % 2 == 1) {
            throw new Fault(4);
        }
        if (kind == '7') {
            r[k] = round(r[k] - 1);
            if (r[k] != 0) {
                r[7] = round(r[7] - 2 * six);
            }
            return;
        }
        int at = where(six, false);
        int s = read(at, false);
        if (kind == '0') {
            multiply(k, (short) s);
        } else if (kind == '1') {
            divide(k, (short) s);
        } else if (kind == '2') {
            move(k, s % 64);
        } else {
            int result = (s | r[k]) - (s & r[k]);
            nz((short) result);
            v = false;
            write(at, false, result);
        }
    }

    private void multiply(int k, int s) {
        long product = (long) s * (short) r[k];
        nz(product);
        v = false;
        c = outside(product, false);
        if (k % 2 == 0) {
            r[k] = round(Math.floorDiv(product, 65536L));
            r[k + 1] = round(product);
        } else {
            r[k] = round(product);
        }
    }

    private void divide(int k, int s) {
        long number = 65536L * (short) r[k] + r[k + 1];
        if (s == 0 || outside(number / s, false)) {
            v = true;
            c = s == 0;
            return;
        }
        v = false;
        c = false;
        nz(number / s);
        long quotient = number / s;
        r[k] = round(quotient);
        r[k + 1] = round(number - quotient * s);
    }

    /** Bit by bit, as the document tells it. */
    private void move(int k, int six) {
        int before = r[k];
        c = false;
        int x = before;
        for (int i = 0; six < 32 && i < six; i++) {
            c = x >= 32768;
            x = round(2L * x);
        }
        for (int i = six; six >= 32 && i < 64; i++) {
            c = x % 2 == 1;
            x = round(Math.floorDiv((short) x, 2));
        }
        nz((short) x);
        v = before >= 32768 != x >= 32768;
        r[k] = x;
    }

    private void rest(String digits, int code) {
        int six = code % 64;
        if (digits.startsWith("0067")) {
            int at = where(six, false);
            z = !n;
            v = false;
            write(at, false, n ? 65535 : 0);
        } else if (digits.startsWith("0003")) {
            int at = where(six, false);
            int x = read(at, false);
            nz((byte) (x / 256));
            v = false;
            c = false;
            write(at, false, x % 256 * 256 + x / 256);
        } else if (digits.startsWith("0001") && six >= 8) {
            r[7] = where(six, false);
        } else if (digits.startsWith("004") && six >= 8) {
            int k = code / 64 % 8;
            int to = where(six, false);
            int old = r[k];
            r[6] = round(r[6] - 2);
            write(r[6], false, old);
            r[k] = r[7];
            r[7] = to;
        } else if (digits.startsWith("00020")) {
            int k = code % 8;
            r[7] = r[k];
            int taken = read(r[6], false);
            r[6] = round(r[6] + 2);
            r[k] = taken;
        } else if (digits.compareTo("000240") >= 0 && digits.compareTo("000277") <= 0) {
            boolean to = six >= 48;
            n = code / 8 % 2 == 1 ? to : n;
            z = code / 4 % 2 == 1 ? to : z;
            v = code / 2 % 2 == 1 ? to : v;
            c = code % 2 == 1 ? to : c;
        } else {
            throw new Fault(4);
        }
    }
}
