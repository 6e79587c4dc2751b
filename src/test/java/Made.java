import java.util.ArrayList;
import java.util.List;

/** An IMAGE that a text gave, read anew by sections 3 and 4: what its numbers must be, held against what they are. */
final class Made {
    private static final int TEXT = 1;
    private static final int INT = 2;
    private static final int CLASS = 3;

    /** One method: its row of numbers, HANDLERS as FROM TO AT CLASS, FRAMES as their PLACE and two rows of types. */
    static final class Method {
        int fixed;
        int name;
        int kind;
        int stack;
        int locals;
        int[] code;
        final List<int[]> handlers = new ArrayList<>();
        final List<Integer> places = new ArrayList<>();
        final List<int[]> frameLocals = new ArrayList<>();
        final List<int[]> frameStacks = new ArrayList<>();
    }

    private final byte[] bytes;
    private int pos;
    final int[][] constants;
    final String[] texts;
    private final List<Integer> wantedFirst = new ArrayList<>();
    final List<Method> methods = new ArrayList<>();

    Made(byte[] bytes) {
        this.bytes = bytes;
        pos = 2;
        int count = next();
        constants = new int[count + 1][];
        texts = new String[count + 1];
        for (int k = 1; k <= count; k++) {
            readConstant(k);
        }
        want(next());
        want(next());
        int fields = next();
        for (int f = 0; f < 2 * fields; f++) {
            want(next());
        }
        int many = next();
        for (int m = 0; m < many; m++) {
            methods.add(readMethod());
        }
    }

    private int next() {
        return bytes[pos++] & 255;
    }

    private int pair() {
        return next() << 8 | next();
    }

    private void readConstant(int k) {
        int tag = next();
        int width = tag == TEXT ? next() : tag == INT ? 4 : tag == CLASS ? 1 : 3;
        int[] row = new int[width + 1];
        row[0] = tag;
        StringBuilder text = new StringBuilder();
        for (int i = 1; i <= width; i++) {
            row[i] = next();
            text.append((char) row[i]);
        }
        constants[k] = row;
        texts[k] = tag == TEXT ? text.toString() : "";
    }

    /** Notes the constant, behind those that it needs, if it was not wanted before. */
    private void want(int k) {
        if (wantedFirst.contains(k)) {
            return;
        }
        int tag = constants[k][0];
        for (int i = 1; tag > INT && i < constants[k].length; i++) {
            want(constants[k][i]);
        }
        wantedFirst.add(k);
    }

    private Method readMethod() {
        Method m = new Method();
        m.fixed = next();
        m.name = next();
        m.kind = next();
        want(m.name);
        want(m.kind);
        m.stack = next();
        m.locals = next();
        m.code = new int[pair()];
        for (int i = 0; i < m.code.length; i++) {
            m.code[i] = next();
        }
        for (int at = 0; at < m.code.length; at += width(m.code[at])) {
            if (namesConstant(m.code[at])) {
                want(m.code[at + 1]);
            }
        }
        int handlers = next();
        for (int h = 0; h < handlers; h++) {
            m.handlers.add(new int[] {pair(), pair(), pair(), next()});
            want(m.handlers.get(h)[3]);
        }
        int frames = next();
        for (int f = 0; f < frames; f++) {
            m.places.add(pair());
            m.frameLocals.add(types());
            m.frameStacks.add(types());
        }
        return m;
    }

    /** 0 TOP, -1 INT, -2 NULL, or the number of the CLASS. */
    private int[] types() {
        int[] row = new int[next()];
        for (int i = 0; i < row.length; i++) {
            int tag = next();
            row[i] = tag == 3 ? next() : -tag;
            if (tag == 3) {
                want(row[i]);
            }
        }
        return row;
    }

    static int width(int op) {
        if (op >= 153 && op <= 167) {
            return 3;
        }
        boolean two = op == 16 || op == 18 || op == 21 || op == 25 || op == 54 || op == 58
            || (op >= 180 && op <= 184) || (op >= 187 && op <= 189) || op == 192 || op == 193;
        return two ? 2 : 1;
    }

    private static boolean namesConstant(int op) {
        return op == 18 || (op >= 180 && op <= 184) || op == 187 || op == 189 || op == 192 || op == 193;
    }

    String classNamed(int k) {
        return texts[constants[k][1]];
    }

    /** What the document says of every IMAGE that a text gives. */
    void hold(Bench b, String what) {
        for (int i = 0; i < wantedFirst.size(); i++) {
            b.due("constant first wanted as " + (i + 1) + " of " + what, wantedFirst.get(i), i + 1);
        }
        b.due("constants wanted of " + what, wantedFirst.size(), constants.length - 1);
        b.due("bytes read of " + what, pos, bytes.length);
        for (int m = 0; m < methods.size(); m++) {
            b.due("STACK of method " + m + " of " + what, methods.get(m).stack, mostOnStack(methods.get(m)));
            b.due("LOCALS of method " + m + " of " + what, methods.get(m).locals, mostLocals(methods.get(m)));
            holdFrames(b, methods.get(m), what);
        }
    }

    private void holdFrames(Bench b, Method m, String what) {
        List<Integer> aims = new ArrayList<>();
        for (int at = 0; at < m.code.length; at += width(m.code[at])) {
            if (width(m.code[at]) == 3) {
                aims.add(at + (short) (m.code[at + 1] << 8 | m.code[at + 2]));
            }
        }
        for (int[] handler : m.handlers) {
            aims.add(handler[2]);
        }
        for (int aim : aims) {
            b.due("a FRAME at " + aim + " of " + what, m.places.contains(aim), true);
        }
        for (int f = 0; f < m.places.size(); f++) {
            b.due("a way to the FRAME at " + m.places.get(f) + " of " + what, aims.contains(m.places.get(f)), true);
            b.due("FRAMES by their PLACES in " + what, f == 0 || m.places.get(f) > m.places.get(f - 1), true);
        }
    }

    private int mostOnStack(Method m) {
        int most = 0;
        int height = 0;
        for (int at = 0; at < m.code.length; at += width(m.code[at])) {
            int frame = m.places.indexOf(at);
            height = frame >= 0 ? m.frameStacks.get(frame).length : height;
            most = Math.max(most, height);
            height += gain(m.code[at], at + 1 < m.code.length ? m.code[at + 1] : 0);
            most = Math.max(most, height);
        }
        return most;
    }

    private int mostLocals(Method m) {
        int most = parameters(texts[m.kind]) + 1 - m.fixed;
        for (int at = 0; at < m.code.length; at += width(m.code[at])) {
            if (m.code[at] == 54 || m.code[at] == 58) {
                most = Math.max(most, m.code[at + 1] + 1);
            }
        }
        return most;
    }

    private int gain(int op, int arg) {
        if ((op >= 1 && op <= 8) || op == 16 || op == 18 || op == 21 || op == 25 || op == 89 || op == 187) {
            return 1;
        }
        switch (op) {
            case 0: case 116: case 167: case 177: case 180: case 188: case 189: case 190: case 192: case 193:
                return 0;
            case 79: case 83:
                return -3;
            case 181:
                return -2;
            case 182: case 184:
                String kind = texts[constants[arg][3]];
                return (kind.endsWith(")V") ? 0 : 1) - parameters(kind) - (op == 182 ? 1 : 0);
            default:
                return op >= 159 && op <= 166 ? -2 : -1;
        }
    }

    static int parameters(String kind) {
        int count = 0;
        for (int i = 1; kind.charAt(i) != ')'; i++) {
            count++;
            i += kind.charAt(i) == '[' ? 1 : 0;
            if (kind.charAt(i) == 'L') {
                i = kind.indexOf(';', i);
            }
        }
        return count;
    }
}
