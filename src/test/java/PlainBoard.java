import java.util.Arrays;

/**
 * The document's board once more, written for comparison: it works on the instructions' names,
 * keeps flags one by one, and waits state by state.
 */
final class PlainBoard {
    private static final String[] NAMES = names();

    final int[] bytes = new int[16384];
    int a, b, c, d, e, h, l, sp, pc;
    boolean sign, zero, aux, parity, carry;
    boolean enabled, halted;
    int eiAge = -1;
    int[] in = new int[3];
    int upper, lower, offset, latch3, latch5, fed;
    int[] counts = new int[16];
    int frameStates, frameCount, request;

    private static String[] names() {
        String[] t = new String[256];
        Arrays.fill(t, "NOP 4");
        String regs = "BCDEHLMA";
        String[] pairs = {"B", "D", "H", "SP"};
        String[] stacked = {"B", "D", "H", "PSW"};
        String[] conditions = {"NZ", "Z", "NC", "C", "PO", "PE", "P", "M"};
        String[] alu = {"ADD", "ADC", "SUB", "SBB", "ANA", "XRA", "ORA", "CMP"};
        for (int i = 0; i < 8; i++) {
            char r = regs.charAt(i);
            t[i * 8 + 4] = "INR " + (r == 'M' ? 10 : 5) + " " + r;
            t[i * 8 + 5] = "DCR " + (r == 'M' ? 10 : 5) + " " + r;
            t[i * 8 + 6] = "MVI " + (r == 'M' ? 10 : 7) + " " + r;
            for (int j = 0; j < 8; j++) {
                char s = regs.charAt(j);
                t[0x40 + i * 8 + j] = "MOV " + (r == 'M' || s == 'M' ? 7 : 5) + " " + r + " " + s;
                t[0x80 + i * 8 + j] = alu[i] + " " + (s == 'M' ? 7 : 4) + " " + s;
            }
            t[0xC0 + i * 8 + 6] = alu[i] + " 7 #";
            t[0xC0 + i * 8 + 7] = "RST 11 " + i;
            t[0xC0 + i * 8] = "R? 5 " + conditions[i];
            t[0xC0 + i * 8 + 2] = "J? 10 " + conditions[i];
            t[0xC0 + i * 8 + 4] = "C? 11 " + conditions[i];
        }
        for (int i = 0; i < 4; i++) {
            t[i * 16 + 1] = "LXI 10 " + pairs[i];
            t[i * 16 + 3] = "INX 5 " + pairs[i];
            t[i * 16 + 9] = "DAD 10 " + pairs[i];
            t[i * 16 + 11] = "DCX 5 " + pairs[i];
            t[0xC1 + i * 16] = "POP 10 " + stacked[i];
            t[0xC5 + i * 16] = "PUSH 11 " + stacked[i];
            t[0xCD + i * 16] = "CALL 17";
        }
        t[0x76] = "HLT 7";
        t[0x02] = "STAX 7 B";
        t[0x12] = "STAX 7 D";
        t[0x0A] = "LDAX 7 B";
        t[0x1A] = "LDAX 7 D";
        t[0x22] = "SHLD 16";
        t[0x2A] = "LHLD 16";
        t[0x32] = "STA 13";
        t[0x3A] = "LDA 13";
        t[0x07] = "RLC 4";
        t[0x0F] = "RRC 4";
        t[0x17] = "RAL 4";
        t[0x1F] = "RAR 4";
        t[0x27] = "DAA 4";
        t[0x2F] = "CMA 4";
        t[0x37] = "STC 4";
        t[0x3F] = "CMC 4";
        t[0xC3] = "JMP 10";
        t[0xCB] = "JMP 10";
        t[0xC9] = "RET 10";
        t[0xD9] = "RET 10";
        t[0xD3] = "OUT 10";
        t[0xDB] = "IN 10";
        t[0xE3] = "XTHL 18";
        t[0xEB] = "XCHG 4";
        t[0xE9] = "PCHL 5";
        t[0xF9] = "SPHL 5";
        t[0xF3] = "DI 4";
        t[0xFB] = "EI 4";
        return t;
    }

    int get(int address) {
        int w = address & 0xFFFF;
        int p = w % 16384;
        if (p < 8192 && w != p) {
            return 0;
        }
        return p >= 2048 && p < 8192 ? 0 : bytes[p];
    }

    void put(int address, int value) {
        int p = (address & 0xFFFF) % 16384;
        if (p >= 8192) {
            bytes[p] = value & 255;
        }
    }

    void clear() {
        a = b = c = d = e = h = l = sp = pc = 0;
        sign = zero = aux = parity = carry = false;
        enabled = halted = false;
        eiAge = -1;
        upper = lower = offset = latch3 = latch5 = fed = request = 0;
    }

    void reset() {
        clear();
        frameStates = 0;
    }

    int step() {
        int n;
        if (request != 0 && enabled) {
            enabled = false;
            halted = false;
            call(request * 8);
            request = 0;
            n = 11;
        } else if (halted) {
            n = 1;
        } else {
            n = instruction();
        }
        int old = frameStates;
        frameStates += n;
        if (old < 16667 && frameStates >= 16667) {
            request = 1;
        }
        if (frameStates >= 33333) {
            frameStates -= 33333;
            frameCount++;
            request = 2;
            fed++;
            if (fed == 16) {
                clear();
            }
        }
        return n;
    }

    int run(int states) {
        int n = 0;
        while (n < states) {
            n += step();
        }
        return n;
    }

    private int next() {
        int v = get(pc);
        pc = (pc + 1) % 65536;
        return v;
    }

    private int next2() {
        int low = next();
        return low + 256 * next();
    }

    private int instruction() {
        String[] w = NAMES[next()].split(" ");
        int n = Integer.parseInt(w[1]);
        int older = eiAge;
        n += obey(w[0], w.length > 2 ? w[2] : "", w.length > 3 ? w[3] : "");
        if (older == 0 && !w[0].equals("DI")) {
            enabled = true;
            eiAge = -1;
        }
        return n;
    }

    private int hl() {
        return h * 256 + l;
    }

    private int reg(String r) {
        switch (r) {
            case "A": return a;
            case "B": return b;
            case "C": return c;
            case "D": return d;
            case "E": return e;
            case "H": return h;
            case "L": return l;
            case "M": return get(hl());
            default: return next();
        }
    }

    private void reg(String r, int v) {
        switch (r) {
            case "A": a = v; break;
            case "B": b = v; break;
            case "C": c = v; break;
            case "D": d = v; break;
            case "E": e = v; break;
            case "H": h = v; break;
            case "L": l = v; break;
            default: put(hl(), v); break;
        }
    }

    int flagByte() {
        return (sign ? 128 : 0) + (zero ? 64 : 0) + (aux ? 16 : 0) + (parity ? 4 : 0) + 2 + (carry ? 1 : 0);
    }

    private int pair(String p) {
        switch (p) {
            case "B": return b * 256 + c;
            case "D": return d * 256 + e;
            case "H": return hl();
            case "SP": return sp;
            default: return a * 256 + flagByte();
        }
    }

    private void pair(String p, int v) {
        int hi = (v >> 8) & 255;
        int lo = v & 255;
        switch (p) {
            case "B": b = hi; c = lo; break;
            case "D": d = hi; e = lo; break;
            case "H": h = hi; l = lo; break;
            case "SP": sp = v & 65535; break;
            default:
                a = hi;
                sign = lo >= 128;
                zero = (lo / 64) % 2 == 1;
                aux = (lo / 16) % 2 == 1;
                parity = (lo / 4) % 2 == 1;
                carry = lo % 2 == 1;
                break;
        }
    }

    private void push(int v) {
        put(sp - 1, v >> 8);
        put(sp - 2, v);
        sp = (sp - 2) & 65535;
    }

    private int pop() {
        int v = get(sp) + 256 * get(sp + 1);
        sp = (sp + 2) & 65535;
        return v;
    }

    private void call(int target) {
        push(pc);
        pc = target;
    }

    private boolean is(String condition) {
        switch (condition) {
            case "NZ": return !zero;
            case "Z": return zero;
            case "NC": return !carry;
            case "C": return carry;
            case "PO": return !parity;
            case "PE": return parity;
            case "P": return !sign;
            default: return sign;
        }
    }

    private int szp(int v) {
        sign = v > 127;
        zero = v == 0;
        boolean even = true;
        for (int i = v; i > 0; i /= 2) {
            even ^= i % 2 == 1;
        }
        parity = even;
        return v;
    }

    private int plus(int v, int more) {
        aux = a % 16 + v % 16 + more >= 16;
        carry = a + v + more >= 256;
        return szp((a + v + more) % 256);
    }

    private int minus(int v, int less) {
        aux = a % 16 >= v % 16 + less;
        carry = a < v + less;
        return szp((a - v - less + 512) % 256);
    }

    private int logic(int v, boolean newAux) {
        aux = newAux;
        carry = false;
        return szp(v);
    }

    private int obey(String name, String x, String y) {
        int v;
        switch (name) {
            case "NOP": return 0;
            case "HLT": halted = true; return 0;
            case "MOV": reg(x, reg(y)); return 0;
            case "MVI": v = next(); reg(x, v); return 0;
            case "LXI": pair(x, next2()); return 0;
            case "INX": pair(x, (pair(x) + 1) & 65535); return 0;
            case "DCX": pair(x, (pair(x) + 65535) & 65535); return 0;
            case "DAD": v = hl() + pair(x); carry = v >= 65536; pair("H", v & 65535); return 0;
            case "INR": v = (reg(x) + 1) % 256; aux = v % 16 == 0; szp(v); reg(x, v); return 0;
            case "DCR": v = (reg(x) + 255) % 256; aux = v % 16 != 15; szp(v); reg(x, v); return 0;
            case "STAX": put(pair(x), a); return 0;
            case "LDAX": a = get(pair(x)); return 0;
            case "STA": put(next2(), a); return 0;
            case "LDA": a = get(next2()); return 0;
            case "SHLD": v = next2(); put(v, l); put(v + 1, h); return 0;
            case "LHLD": v = next2(); l = get(v); h = get(v + 1); return 0;
            case "XCHG": v = hl(); pair("H", pair("D")); pair("D", v); return 0;
            case "XTHL": v = pop(); push(hl()); pair("H", v); return 0;
            case "PCHL": pc = hl(); return 0;
            case "SPHL": sp = hl(); return 0;
            case "JMP": pc = next2(); return 0;
            case "CALL": call(next2()); return 0;
            case "RET": pc = pop(); return 0;
            case "RST": call(8 * Integer.parseInt(x)); return 0;
            case "PUSH": push(pair(x)); return 0;
            case "POP": pair(x, pop()); return 0;
            case "J?": v = next2(); if (is(x)) { pc = v; } return 0;
            case "C?": v = next2(); if (is(x)) { call(v); return 6; } return 0;
            case "R?": if (is(x)) { pc = pop(); return 6; } return 0;
            case "EI": if (!enabled) { eiAge = 0; } return 0;
            case "DI": enabled = false; eiAge = -1; return 0;
            case "IN": a = port(next()); return 0;
            case "OUT": port(next(), a); return 0;
            default: accumulator(name, x); return 0;
        }
    }

    private void accumulator(String name, String x) {
        int v;
        boolean old = carry;
        switch (name) {
            case "ADD": a = plus(reg(x), 0); break;
            case "ADC": a = plus(reg(x), carry ? 1 : 0); break;
            case "SUB": a = minus(reg(x), 0); break;
            case "SBB": a = minus(reg(x), carry ? 1 : 0); break;
            case "CMP": minus(reg(x), 0); break;
            case "ANA": v = reg(x); a = logic(a & v, a % 16 > 7 || v % 16 > 7); break;
            case "XRA": a = logic(a ^ reg(x), false); break;
            case "ORA": a = logic(a | reg(x), false); break;
            case "RLC": carry = a > 127; a = a * 2 % 256 + (carry ? 1 : 0); break;
            case "RRC": carry = a % 2 == 1; a = a / 2 + (carry ? 128 : 0); break;
            case "RAL": carry = a > 127; a = a * 2 % 256 + (old ? 1 : 0); break;
            case "RAR": carry = a % 2 == 1; a = a / 2 + (old ? 128 : 0); break;
            case "CMA": a = 255 - a; break;
            case "STC": carry = true; break;
            case "CMC": carry = !carry; break;
            case "DAA":
                boolean high = a > 0x99 || carry;
                boolean low = a % 16 > 9 || aux;
                aux = low && a % 16 + 6 > 15;
                carry = high;
                a = szp((a + (low ? 6 : 0) + (high ? 0x60 : 0)) % 256);
                break;
            default: throw new IllegalStateException(name);
        }
    }

    int port(int p) {
        if (p < 3) {
            return in[p];
        }
        return p == 3 ? ((upper * 256 + lower) * (1 << offset)) / 256 % 256 : 0;
    }

    private void port(int p, int v) {
        if (p == 2) {
            offset = v % 8;
        } else if (p == 3) {
            rise(latch3, v, 0);
            latch3 = v;
        } else if (p == 4) {
            lower = upper;
            upper = v;
        } else if (p == 5) {
            rise(latch5, v, 8);
            latch5 = v;
        } else if (p == 6) {
            fed = 0;
        }
    }

    private void rise(int old, int now, int from) {
        for (int i = 0; i < 8; i++) {
            if ((now >> i) % 2 == 1 && (old >> i) % 2 == 0) {
                counts[from + i]++;
            }
        }
    }

    int register(int r) {
        int[] all = {b, c, d, e, h, l, flagByte(), a, sp, pc, enabled ? 1 : 0, halted ? 1 : 0};
        return all[r];
    }

    int state(int what) {
        int[] all = {latch3, latch5, frameStates, frameCount, request, fed, port(3)};
        return all[what];
    }

    int dot(int x, int y) {
        return get(9216 + 32 * x + (255 - y) / 8) >> (255 - y) % 8 & 1;
    }

    int lit(int x, int y, int w, int h) {
        int sum = 0;
        for (int i = 0; i < 224; i++) {
            for (int j = 0; j < 256; j++) {
                if (i >= x && i < (long) x + w && j >= y && j < (long) y + h) {
                    sum += dot(i, j);
                }
            }
        }
        return sum;
    }
}
